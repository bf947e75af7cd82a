section
-- ===== PART A: goes FIRST, ahead of the names: the tables' words, and 'selects' of the private methods out of them =====
/-- a private method of a class that the tables say can be made, by its rows of tables_1 -/
def lw_okq (q : MethodName × Nat) : Prop := (q.1.cls ≠ "java/lang/invoke/MethodHandle" ∧ q.1.cls ≠ "java/lang/invoke/VarHandle") ∧ Cond.instantiable q.1.cls q.2 ∈ tables_1 ∧ Cond.privateMethod q.1 ∈ tables_1 ∧ Cond.instanceMethod q.1 ∈ tables_1
theorem lw_p0 : lw_okq (⟨"BridgePairs", "isPerson", "(I)Z"⟩, 10) := ⟨⟨by decide +kernel, by decide +kernel⟩, List.mem_of_getElem? (i := 21) (by decide +kernel), List.mem_of_getElem? (i := 328) (by decide +kernel), List.mem_of_getElem? (i := 329) (by decide +kernel)⟩
theorem lw_p1 : lw_okq (⟨"BridgePairs$Ways", "begin", "(LBridgePairs$Person;)V"⟩, 6) := ⟨⟨by decide +kernel, by decide +kernel⟩, List.mem_of_getElem? (i := 155) (by decide +kernel), List.mem_of_getElem? (i := 340) (by decide +kernel), List.mem_of_getElem? (i := 341) (by decide +kernel)⟩
theorem lw_p2 : lw_okq (⟨"BridgePairs$Ways", "meet", "(II)Z"⟩, 6) := ⟨⟨by decide +kernel, by decide +kernel⟩, List.mem_of_getElem? (i := 155) (by decide +kernel), List.mem_of_getElem? (i := 345) (by decide +kernel), List.mem_of_getElem? (i := 346) (by decide +kernel)⟩
theorem lw_p3 : lw_okq (⟨"BridgePairs", "hoursUntilDone", "(I)I"⟩, 10) := ⟨⟨by decide +kernel, by decide +kernel⟩, List.mem_of_getElem? (i := 21) (by decide +kernel), List.mem_of_getElem? (i := 375) (by decide +kernel), List.mem_of_getElem? (i := 376) (by decide +kernel)⟩
theorem lw_p4 : lw_okq (⟨"BridgePairs", "hoursGo", "(LBridgePairs$World;II)V"⟩, 10) := ⟨⟨by decide +kernel, by decide +kernel⟩, List.mem_of_getElem? (i := 21) (by decide +kernel), List.mem_of_getElem? (i := 403) (by decide +kernel), List.mem_of_getElem? (i := 404) (by decide +kernel)⟩
theorem lw_p5 : lw_okq (⟨"BridgePairs", "crossable", "(I)I"⟩, 10) := ⟨⟨by decide +kernel, by decide +kernel⟩, List.mem_of_getElem? (i := 21) (by decide +kernel), List.mem_of_getElem? (i := 422) (by decide +kernel), List.mem_of_getElem? (i := 423) (by decide +kernel)⟩
theorem lw_p6 : lw_okq (⟨"BridgePairs", "leaveNow", "(II)I"⟩, 10) := ⟨⟨by decide +kernel, by decide +kernel⟩, List.mem_of_getElem? (i := 21) (by decide +kernel), List.mem_of_getElem? (i := 429) (by decide +kernel), List.mem_of_getElem? (i := 430) (by decide +kernel)⟩
theorem lw_p7 : lw_okq (⟨"BridgePairs", "isBridge", "(I)Z"⟩, 10) := ⟨⟨by decide +kernel, by decide +kernel⟩, List.mem_of_getElem? (i := 21) (by decide +kernel), List.mem_of_getElem? (i := 433) (by decide +kernel), List.mem_of_getElem? (i := 434) (by decide +kernel)⟩
theorem lw_p8 : lw_okq (⟨"BridgePairs$Text", "readClause", "(LBridgePairs$City;)Z"⟩, 4) := ⟨⟨by decide +kernel, by decide +kernel⟩, List.mem_of_getElem? (i := 181) (by decide +kernel), List.mem_of_getElem? (i := 494) (by decide +kernel), List.mem_of_getElem? (i := 495) (by decide +kernel)⟩
theorem lw_p9 : lw_okq (⟨"BridgePairs$Text", "sign", "()I"⟩, 4) := ⟨⟨by decide +kernel, by decide +kernel⟩, List.mem_of_getElem? (i := 181) (by decide +kernel), List.mem_of_getElem? (i := 498) (by decide +kernel), List.mem_of_getElem? (i := 499) (by decide +kernel)⟩
theorem lw_p10 : lw_okq (⟨"BridgePairs$Text", "takesWord", "(Ljava/lang/String;)Z"⟩, 4) := ⟨⟨by decide +kernel, by decide +kernel⟩, List.mem_of_getElem? (i := 181) (by decide +kernel), List.mem_of_getElem? (i := 503) (by decide +kernel), List.mem_of_getElem? (i := 504) (by decide +kernel)⟩
theorem lw_p11 : lw_okq (⟨"BridgePairs$Text", "takes", "(C)Z"⟩, 4) := ⟨⟨by decide +kernel, by decide +kernel⟩, List.mem_of_getElem? (i := 181) (by decide +kernel), List.mem_of_getElem? (i := 555) (by decide +kernel), List.mem_of_getElem? (i := 556) (by decide +kernel)⟩
theorem lw_p12 : lw_okq (⟨"BridgePairs$Text", "takesNumber", "()Z"⟩, 4) := ⟨⟨by decide +kernel, by decide +kernel⟩, List.mem_of_getElem? (i := 181) (by decide +kernel), List.mem_of_getElem? (i := 559) (by decide +kernel), List.mem_of_getElem? (i := 560) (by decide +kernel)⟩
theorem lw_p13 : lw_okq (⟨"BridgePairs$Text", "readExpression", "(LBridgePairs$City;I)Z"⟩, 4) := ⟨⟨by decide +kernel, by decide +kernel⟩, List.mem_of_getElem? (i := 181) (by decide +kernel), List.mem_of_getElem? (i := 565) (by decide +kernel), List.mem_of_getElem? (i := 566) (by decide +kernel)⟩
theorem lw_p14 : lw_okq (⟨"BridgePairs$Text", "readFactor", "(LBridgePairs$City;I)Z"⟩, 4) := ⟨⟨by decide +kernel, by decide +kernel⟩, List.mem_of_getElem? (i := 181) (by decide +kernel), List.mem_of_getElem? (i := 569) (by decide +kernel), List.mem_of_getElem? (i := 570) (by decide +kernel)⟩
theorem lw_p15 : lw_okq (⟨"BridgePairs$Text", "readTest", "(LBridgePairs$City;)Z"⟩, 4) := ⟨⟨by decide +kernel, by decide +kernel⟩, List.mem_of_getElem? (i := 181) (by decide +kernel), List.mem_of_getElem? (i := 573) (by decide +kernel), List.mem_of_getElem? (i := 574) (by decide +kernel)⟩
def lw_privs_1 : List (MethodName × Nat) := [(⟨"BridgePairs", "isPerson", "(I)Z"⟩, 10), (⟨"BridgePairs$Ways", "begin", "(LBridgePairs$Person;)V"⟩, 6), (⟨"BridgePairs$Ways", "meet", "(II)Z"⟩, 6), (⟨"BridgePairs", "hoursUntilDone", "(I)I"⟩, 10), (⟨"BridgePairs", "hoursGo", "(LBridgePairs$World;II)V"⟩, 10), (⟨"BridgePairs", "crossable", "(I)I"⟩, 10), (⟨"BridgePairs", "leaveNow", "(II)I"⟩, 10), (⟨"BridgePairs", "isBridge", "(I)Z"⟩, 10), (⟨"BridgePairs$Text", "readClause", "(LBridgePairs$City;)Z"⟩, 4), (⟨"BridgePairs$Text", "sign", "()I"⟩, 4), (⟨"BridgePairs$Text", "takesWord", "(Ljava/lang/String;)Z"⟩, 4), (⟨"BridgePairs$Text", "takes", "(C)Z"⟩, 4), (⟨"BridgePairs$Text", "takesNumber", "()Z"⟩, 4), (⟨"BridgePairs$Text", "readExpression", "(LBridgePairs$City;I)Z"⟩, 4), (⟨"BridgePairs$Text", "readFactor", "(LBridgePairs$City;I)Z"⟩, 4), (⟨"BridgePairs$Text", "readTest", "(LBridgePairs$City;)Z"⟩, 4)]
theorem lw_r1 : ∀ q ∈ lw_privs_1, lw_okq q := List.forall_mem_cons.mpr ⟨lw_p0, List.forall_mem_cons.mpr ⟨lw_p1, List.forall_mem_cons.mpr ⟨lw_p2, List.forall_mem_cons.mpr ⟨lw_p3, List.forall_mem_cons.mpr ⟨lw_p4, List.forall_mem_cons.mpr ⟨lw_p5, List.forall_mem_cons.mpr ⟨lw_p6, List.forall_mem_cons.mpr ⟨lw_p7, List.forall_mem_cons.mpr ⟨lw_p8, List.forall_mem_cons.mpr ⟨lw_p9, List.forall_mem_cons.mpr ⟨lw_p10, List.forall_mem_cons.mpr ⟨lw_p11, List.forall_mem_cons.mpr ⟨lw_p12, List.forall_mem_cons.mpr ⟨lw_p13, List.forall_mem_cons.mpr ⟨lw_p14, List.forall_mem_cons.mpr ⟨lw_p15, fun _ h => absurd h List.not_mem_nil⟩⟩⟩⟩⟩⟩⟩⟩⟩⟩⟩⟩⟩⟩⟩⟩
theorem lw_p16 : lw_okq (⟨"BridgePairs$Text", "takesOneOf", "(Ljava/lang/String;)I"⟩, 4) := ⟨⟨by decide +kernel, by decide +kernel⟩, List.mem_of_getElem? (i := 181) (by decide +kernel), List.mem_of_getElem? (i := 578) (by decide +kernel), List.mem_of_getElem? (i := 579) (by decide +kernel)⟩
theorem lw_p17 : lw_okq (⟨"BridgePairs$Text", "readDenied", "(LBridgePairs$City;I)Z"⟩, 4) := ⟨⟨by decide +kernel, by decide +kernel⟩, List.mem_of_getElem? (i := 181) (by decide +kernel), List.mem_of_getElem? (i := 644) (by decide +kernel), List.mem_of_getElem? (i := 645) (by decide +kernel)⟩
theorem lw_p18 : lw_okq (⟨"BridgePairs", "goesAsSeen", "(I)Z"⟩, 10) := ⟨⟨by decide +kernel, by decide +kernel⟩, List.mem_of_getElem? (i := 21) (by decide +kernel), List.mem_of_getElem? (i := 698) (by decide +kernel), List.mem_of_getElem? (i := 699) (by decide +kernel)⟩
theorem lw_p19 : lw_okq (⟨"BridgePairs$Acts", "perform", "(IIII)I"⟩, 5) := ⟨⟨by decide +kernel, by decide +kernel⟩, List.mem_of_getElem? (i := 205) (by decide +kernel), List.mem_of_getElem? (i := 773) (by decide +kernel), List.mem_of_getElem? (i := 774) (by decide +kernel)⟩
theorem lw_p20 : lw_okq (⟨"BridgePairs$Acts", "answer", "(IIII)I"⟩, 5) := ⟨⟨by decide +kernel, by decide +kernel⟩, List.mem_of_getElem? (i := 205) (by decide +kernel), List.mem_of_getElem? (i := 781) (by decide +kernel), List.mem_of_getElem? (i := 782) (by decide +kernel)⟩
theorem lw_p21 : lw_okq (⟨"BridgePairsModel", "change", "(III)I"⟩, 36) := ⟨⟨by decide +kernel, by decide +kernel⟩, List.mem_of_getElem? (i := 833) (by decide +kernel), List.mem_of_getElem? (i := 974) (by decide +kernel), List.mem_of_getElem? (i := 975) (by decide +kernel)⟩
theorem lw_p22 : lw_okq (⟨"BridgePairsModel", "one", "(II)I"⟩, 36) := ⟨⟨by decide +kernel, by decide +kernel⟩, List.mem_of_getElem? (i := 833) (by decide +kernel), List.mem_of_getElem? (i := 978) (by decide +kernel), List.mem_of_getElem? (i := 979) (by decide +kernel)⟩
theorem lw_p23 : lw_okq (⟨"BridgePairsModel", "isOne", "(I)Z"⟩, 36) := ⟨⟨by decide +kernel, by decide +kernel⟩, List.mem_of_getElem? (i := 833) (by decide +kernel), List.mem_of_getElem? (i := 986) (by decide +kernel), List.mem_of_getElem? (i := 987) (by decide +kernel)⟩
theorem lw_p24 : lw_okq (⟨"BridgePairsModel", "reach", "(I)I"⟩, 36) := ⟨⟨by decide +kernel, by decide +kernel⟩, List.mem_of_getElem? (i := 833) (by decide +kernel), List.mem_of_getElem? (i := 993) (by decide +kernel), List.mem_of_getElem? (i := 994) (by decide +kernel)⟩
theorem lw_p25 : lw_okq (⟨"BridgePairsModel", "explore", "(I)V"⟩, 36) := ⟨⟨by decide +kernel, by decide +kernel⟩, List.mem_of_getElem? (i := 833) (by decide +kernel), List.mem_of_getElem? (i := 997) (by decide +kernel), List.mem_of_getElem? (i := 998) (by decide +kernel)⟩
theorem lw_p26 : lw_okq (⟨"BridgePairsModel", "mayAnywhere", "(I)I"⟩, 36) := ⟨⟨by decide +kernel, by decide +kernel⟩, List.mem_of_getElem? (i := 833) (by decide +kernel), List.mem_of_getElem? (i := 1001) (by decide +kernel), List.mem_of_getElem? (i := 1002) (by decide +kernel)⟩
theorem lw_p27 : lw_okq (⟨"BridgePairsModel", "isLost", "(I)Z"⟩, 36) := ⟨⟨by decide +kernel, by decide +kernel⟩, List.mem_of_getElem? (i := 833) (by decide +kernel), List.mem_of_getElem? (i := 1005) (by decide +kernel), List.mem_of_getElem? (i := 1006) (by decide +kernel)⟩
theorem lw_p28 : lw_okq (⟨"BridgePairsModel", "leave", "(II)I"⟩, 36) := ⟨⟨by decide +kernel, by decide +kernel⟩, List.mem_of_getElem? (i := 833) (by decide +kernel), List.mem_of_getElem? (i := 1009) (by decide +kernel), List.mem_of_getElem? (i := 1010) (by decide +kernel)⟩
theorem lw_p29 : lw_okq (⟨"BridgePairsModel", "readFor", "(II)V"⟩, 36) := ⟨⟨by decide +kernel, by decide +kernel⟩, List.mem_of_getElem? (i := 833) (by decide +kernel), List.mem_of_getElem? (i := 1013) (by decide +kernel), List.mem_of_getElem? (i := 1014) (by decide +kernel)⟩
theorem lw_p30 : lw_okq (⟨"BridgePairsModel", "readAll", "()Z"⟩, 36) := ⟨⟨by decide +kernel, by decide +kernel⟩, List.mem_of_getElem? (i := 833) (by decide +kernel), List.mem_of_getElem? (i := 1020) (by decide +kernel), List.mem_of_getElem? (i := 1021) (by decide +kernel)⟩
theorem lw_p31 : lw_okq (⟨"BridgePairsModel", "clause", "()V"⟩, 36) := ⟨⟨by decide +kernel, by decide +kernel⟩, List.mem_of_getElem? (i := 833) (by decide +kernel), List.mem_of_getElem? (i := 1024) (by decide +kernel), List.mem_of_getElem? (i := 1025) (by decide +kernel)⟩
def lw_privs_2 : List (MethodName × Nat) := [(⟨"BridgePairs$Text", "takesOneOf", "(Ljava/lang/String;)I"⟩, 4), (⟨"BridgePairs$Text", "readDenied", "(LBridgePairs$City;I)Z"⟩, 4), (⟨"BridgePairs", "goesAsSeen", "(I)Z"⟩, 10), (⟨"BridgePairs$Acts", "perform", "(IIII)I"⟩, 5), (⟨"BridgePairs$Acts", "answer", "(IIII)I"⟩, 5), (⟨"BridgePairsModel", "change", "(III)I"⟩, 36), (⟨"BridgePairsModel", "one", "(II)I"⟩, 36), (⟨"BridgePairsModel", "isOne", "(I)Z"⟩, 36), (⟨"BridgePairsModel", "reach", "(I)I"⟩, 36), (⟨"BridgePairsModel", "explore", "(I)V"⟩, 36), (⟨"BridgePairsModel", "mayAnywhere", "(I)I"⟩, 36), (⟨"BridgePairsModel", "isLost", "(I)Z"⟩, 36), (⟨"BridgePairsModel", "leave", "(II)I"⟩, 36), (⟨"BridgePairsModel", "readFor", "(II)V"⟩, 36), (⟨"BridgePairsModel", "readAll", "()Z"⟩, 36), (⟨"BridgePairsModel", "clause", "()V"⟩, 36)]
theorem lw_r2 : ∀ q ∈ lw_privs_2, lw_okq q := List.forall_mem_cons.mpr ⟨lw_p16, List.forall_mem_cons.mpr ⟨lw_p17, List.forall_mem_cons.mpr ⟨lw_p18, List.forall_mem_cons.mpr ⟨lw_p19, List.forall_mem_cons.mpr ⟨lw_p20, List.forall_mem_cons.mpr ⟨lw_p21, List.forall_mem_cons.mpr ⟨lw_p22, List.forall_mem_cons.mpr ⟨lw_p23, List.forall_mem_cons.mpr ⟨lw_p24, List.forall_mem_cons.mpr ⟨lw_p25, List.forall_mem_cons.mpr ⟨lw_p26, List.forall_mem_cons.mpr ⟨lw_p27, List.forall_mem_cons.mpr ⟨lw_p28, List.forall_mem_cons.mpr ⟨lw_p29, List.forall_mem_cons.mpr ⟨lw_p30, List.forall_mem_cons.mpr ⟨lw_p31, fun _ h => absurd h List.not_mem_nil⟩⟩⟩⟩⟩⟩⟩⟩⟩⟩⟩⟩⟩⟩⟩⟩
theorem lw_p32 : lw_okq (⟨"BridgePairsModel", "isAt", "(I)Z"⟩, 36) := ⟨⟨by decide +kernel, by decide +kernel⟩, List.mem_of_getElem? (i := 833) (by decide +kernel), List.mem_of_getElem? (i := 1028) (by decide +kernel), List.mem_of_getElem? (i := 1029) (by decide +kernel)⟩
theorem lw_p33 : lw_okq (⟨"BridgePairsModel", "takes", "(I)V"⟩, 36) := ⟨⟨by decide +kernel, by decide +kernel⟩, List.mem_of_getElem? (i := 833) (by decide +kernel), List.mem_of_getElem? (i := 1032) (by decide +kernel), List.mem_of_getElem? (i := 1033) (by decide +kernel)⟩
theorem lw_p34 : lw_okq (⟨"BridgePairsModel", "number", "()I"⟩, 36) := ⟨⟨by decide +kernel, by decide +kernel⟩, List.mem_of_getElem? (i := 833) (by decide +kernel), List.mem_of_getElem? (i := 1036) (by decide +kernel), List.mem_of_getElem? (i := 1037) (by decide +kernel)⟩
theorem lw_p35 : lw_okq (⟨"BridgePairsModel", "isDigit", "()Z"⟩, 36) := ⟨⟨by decide +kernel, by decide +kernel⟩, List.mem_of_getElem? (i := 833) (by decide +kernel), List.mem_of_getElem? (i := 1040) (by decide +kernel), List.mem_of_getElem? (i := 1041) (by decide +kernel)⟩
theorem lw_p36 : lw_okq (⟨"BridgePairsModel", "any", "()Z"⟩, 36) := ⟨⟨by decide +kernel, by decide +kernel⟩, List.mem_of_getElem? (i := 833) (by decide +kernel), List.mem_of_getElem? (i := 1044) (by decide +kernel), List.mem_of_getElem? (i := 1045) (by decide +kernel)⟩
theorem lw_p37 : lw_okq (⟨"BridgePairsModel", "both", "()Z"⟩, 36) := ⟨⟨by decide +kernel, by decide +kernel⟩, List.mem_of_getElem? (i := 833) (by decide +kernel), List.mem_of_getElem? (i := 1048) (by decide +kernel), List.mem_of_getElem? (i := 1049) (by decide +kernel)⟩
theorem lw_p38 : lw_okq (⟨"BridgePairsModel", "factor", "()Z"⟩, 36) := ⟨⟨by decide +kernel, by decide +kernel⟩, List.mem_of_getElem? (i := 833) (by decide +kernel), List.mem_of_getElem? (i := 1052) (by decide +kernel), List.mem_of_getElem? (i := 1053) (by decide +kernel)⟩
theorem lw_p39 : lw_okq (⟨"BridgePairsModel", "test", "()Z"⟩, 36) := ⟨⟨by decide +kernel, by decide +kernel⟩, List.mem_of_getElem? (i := 833) (by decide +kernel), List.mem_of_getElem? (i := 1056) (by decide +kernel), List.mem_of_getElem? (i := 1057) (by decide +kernel)⟩
theorem lw_p40 : lw_okq (⟨"BridgePairsModel", "arrive", "(IIII)V"⟩, 36) := ⟨⟨by decide +kernel, by decide +kernel⟩, List.mem_of_getElem? (i := 833) (by decide +kernel), List.mem_of_getElem? (i := 1060) (by decide +kernel), List.mem_of_getElem? (i := 1061) (by decide +kernel)⟩
theorem lw_p41 : lw_okq (⟨"BridgePairsModel", "end", "(II)I"⟩, 36) := ⟨⟨by decide +kernel, by decide +kernel⟩, List.mem_of_getElem? (i := 833) (by decide +kernel), List.mem_of_getElem? (i := 1064) (by decide +kernel), List.mem_of_getElem? (i := 1065) (by decide +kernel)⟩
theorem lw_p42 : lw_okq (⟨"BridgePairsModel", "halfBy", "(II)I"⟩, 36) := ⟨⟨by decide +kernel, by decide +kernel⟩, List.mem_of_getElem? (i := 833) (by decide +kernel), List.mem_of_getElem? (i := 1068) (by decide +kernel), List.mem_of_getElem? (i := 1069) (by decide +kernel)⟩
theorem lw_p43 : lw_okq (⟨"BridgePairsModel", "sister", "(I)I"⟩, 36) := ⟨⟨by decide +kernel, by decide +kernel⟩, List.mem_of_getElem? (i := 833) (by decide +kernel), List.mem_of_getElem? (i := 1072) (by decide +kernel), List.mem_of_getElem? (i := 1073) (by decide +kernel)⟩
theorem lw_p44 : lw_okq (⟨"BridgePairsModel", "done", "(I)I"⟩, 36) := ⟨⟨by decide +kernel, by decide +kernel⟩, List.mem_of_getElem? (i := 833) (by decide +kernel), List.mem_of_getElem? (i := 1076) (by decide +kernel), List.mem_of_getElem? (i := 1077) (by decide +kernel)⟩
theorem lw_p45 : lw_okq (⟨"BridgePairsModel", "isDone", "(I)Z"⟩, 36) := ⟨⟨by decide +kernel, by decide +kernel⟩, List.mem_of_getElem? (i := 833) (by decide +kernel), List.mem_of_getElem? (i := 1080) (by decide +kernel), List.mem_of_getElem? (i := 1081) (by decide +kernel)⟩
theorem lw_p46 : lw_okq (⟨"BridgePairsModel", "isTruly", "(II)Z"⟩, 36) := ⟨⟨by decide +kernel, by decide +kernel⟩, List.mem_of_getElem? (i := 833) (by decide +kernel), List.mem_of_getElem? (i := 1084) (by decide +kernel), List.mem_of_getElem? (i := 1085) (by decide +kernel)⟩
theorem lw_p47 : lw_okq (⟨"BridgePairsModel", "hour", "()V"⟩, 36) := ⟨⟨by decide +kernel, by decide +kernel⟩, List.mem_of_getElem? (i := 833) (by decide +kernel), List.mem_of_getElem? (i := 1088) (by decide +kernel), List.mem_of_getElem? (i := 1089) (by decide +kernel)⟩
def lw_privs_3 : List (MethodName × Nat) := [(⟨"BridgePairsModel", "isAt", "(I)Z"⟩, 36), (⟨"BridgePairsModel", "takes", "(I)V"⟩, 36), (⟨"BridgePairsModel", "number", "()I"⟩, 36), (⟨"BridgePairsModel", "isDigit", "()Z"⟩, 36), (⟨"BridgePairsModel", "any", "()Z"⟩, 36), (⟨"BridgePairsModel", "both", "()Z"⟩, 36), (⟨"BridgePairsModel", "factor", "()Z"⟩, 36), (⟨"BridgePairsModel", "test", "()Z"⟩, 36), (⟨"BridgePairsModel", "arrive", "(IIII)V"⟩, 36), (⟨"BridgePairsModel", "end", "(II)I"⟩, 36), (⟨"BridgePairsModel", "halfBy", "(II)I"⟩, 36), (⟨"BridgePairsModel", "sister", "(I)I"⟩, 36), (⟨"BridgePairsModel", "done", "(I)I"⟩, 36), (⟨"BridgePairsModel", "isDone", "(I)Z"⟩, 36), (⟨"BridgePairsModel", "isTruly", "(II)Z"⟩, 36), (⟨"BridgePairsModel", "hour", "()V"⟩, 36)]
theorem lw_r3 : ∀ q ∈ lw_privs_3, lw_okq q := List.forall_mem_cons.mpr ⟨lw_p32, List.forall_mem_cons.mpr ⟨lw_p33, List.forall_mem_cons.mpr ⟨lw_p34, List.forall_mem_cons.mpr ⟨lw_p35, List.forall_mem_cons.mpr ⟨lw_p36, List.forall_mem_cons.mpr ⟨lw_p37, List.forall_mem_cons.mpr ⟨lw_p38, List.forall_mem_cons.mpr ⟨lw_p39, List.forall_mem_cons.mpr ⟨lw_p40, List.forall_mem_cons.mpr ⟨lw_p41, List.forall_mem_cons.mpr ⟨lw_p42, List.forall_mem_cons.mpr ⟨lw_p43, List.forall_mem_cons.mpr ⟨lw_p44, List.forall_mem_cons.mpr ⟨lw_p45, List.forall_mem_cons.mpr ⟨lw_p46, List.forall_mem_cons.mpr ⟨lw_p47, fun _ h => absurd h List.not_mem_nil⟩⟩⟩⟩⟩⟩⟩⟩⟩⟩⟩⟩⟩⟩⟩⟩
theorem lw_p48 : lw_okq (⟨"BridgePairsModel", "longTo", "(II)I"⟩, 36) := ⟨⟨by decide +kernel, by decide +kernel⟩, List.mem_of_getElem? (i := 833) (by decide +kernel), List.mem_of_getElem? (i := 1092) (by decide +kernel), List.mem_of_getElem? (i := 1093) (by decide +kernel)⟩
theorem lw_p49 : lw_okq (⟨"BridgePairsModel", "crosses", "(II)V"⟩, 36) := ⟨⟨by decide +kernel, by decide +kernel⟩, List.mem_of_getElem? (i := 833) (by decide +kernel), List.mem_of_getElem? (i := 1096) (by decide +kernel), List.mem_of_getElem? (i := 1097) (by decide +kernel)⟩
theorem lw_p50 : lw_okq (⟨"BridgePairsModel", "may", "(I)I"⟩, 36) := ⟨⟨by decide +kernel, by decide +kernel⟩, List.mem_of_getElem? (i := 833) (by decide +kernel), List.mem_of_getElem? (i := 1100) (by decide +kernel), List.mem_of_getElem? (i := 1101) (by decide +kernel)⟩
theorem lw_p51 : lw_okq (⟨"BridgePairsModel", "isBridge", "(I)Z"⟩, 36) := ⟨⟨by decide +kernel, by decide +kernel⟩, List.mem_of_getElem? (i := 833) (by decide +kernel), List.mem_of_getElem? (i := 1104) (by decide +kernel), List.mem_of_getElem? (i := 1105) (by decide +kernel)⟩
theorem lw_p52 : lw_okq (⟨"BridgePairsModel", "isSwap", "(II)Z"⟩, 36) := ⟨⟨by decide +kernel, by decide +kernel⟩, List.mem_of_getElem? (i := 833) (by decide +kernel), List.mem_of_getElem? (i := 1128) (by decide +kernel), List.mem_of_getElem? (i := 1129) (by decide +kernel)⟩
theorem lw_p53 : lw_okq (⟨"BridgePairsModel", "goSwap", "(II)V"⟩, 36) := ⟨⟨by decide +kernel, by decide +kernel⟩, List.mem_of_getElem? (i := 833) (by decide +kernel), List.mem_of_getElem? (i := 1132) (by decide +kernel), List.mem_of_getElem? (i := 1133) (by decide +kernel)⟩
theorem lw_p54 : lw_okq (⟨"BridgePairsModel", "dones", "()I"⟩, 36) := ⟨⟨by decide +kernel, by decide +kernel⟩, List.mem_of_getElem? (i := 833) (by decide +kernel), List.mem_of_getElem? (i := 1152) (by decide +kernel), List.mem_of_getElem? (i := 1153) (by decide +kernel)⟩
theorem lw_p55 : lw_okq (⟨"BridgePairsModel", "halves", "()I"⟩, 36) := ⟨⟨by decide +kernel, by decide +kernel⟩, List.mem_of_getElem? (i := 833) (by decide +kernel), List.mem_of_getElem? (i := 1156) (by decide +kernel), List.mem_of_getElem? (i := 1157) (by decide +kernel)⟩
theorem lw_p56 : lw_okq (⟨"BridgePairsModel", "hours", "(I)V"⟩, 36) := ⟨⟨by decide +kernel, by decide +kernel⟩, List.mem_of_getElem? (i := 833) (by decide +kernel), List.mem_of_getElem? (i := 1164) (by decide +kernel), List.mem_of_getElem? (i := 1165) (by decide +kernel)⟩
theorem lw_p57 : lw_okq (⟨"BridgePairsModel", "fits", "(III)I"⟩, 36) := ⟨⟨by decide +kernel, by decide +kernel⟩, List.mem_of_getElem? (i := 833) (by decide +kernel), List.mem_of_getElem? (i := 1192) (by decide +kernel), List.mem_of_getElem? (i := 1193) (by decide +kernel)⟩
theorem lw_p58 : lw_okq (⟨"BridgePairsModel", "isAllSeen", "(I)Z"⟩, 36) := ⟨⟨by decide +kernel, by decide +kernel⟩, List.mem_of_getElem? (i := 833) (by decide +kernel), List.mem_of_getElem? (i := 1196) (by decide +kernel), List.mem_of_getElem? (i := 1197) (by decide +kernel)⟩
theorem lw_p59 : lw_okq (⟨"BridgePairsModel", "all", "(III)I"⟩, 36) := ⟨⟨by decide +kernel, by decide +kernel⟩, List.mem_of_getElem? (i := 833) (by decide +kernel), List.mem_of_getElem? (i := 1237) (by decide +kernel), List.mem_of_getElem? (i := 1238) (by decide +kernel)⟩
theorem lw_p60 : lw_okq (⟨"BridgePairsModel", "byKind", "(IIII)I"⟩, 36) := ⟨⟨by decide +kernel, by decide +kernel⟩, List.mem_of_getElem? (i := 833) (by decide +kernel), List.mem_of_getElem? (i := 1241) (by decide +kernel), List.mem_of_getElem? (i := 1242) (by decide +kernel)⟩
theorem lw_p61 : lw_okq (⟨"BridgePairsModel", "body", "(I)I"⟩, 36) := ⟨⟨by decide +kernel, by decide +kernel⟩, List.mem_of_getElem? (i := 833) (by decide +kernel), List.mem_of_getElem? (i := 1245) (by decide +kernel), List.mem_of_getElem? (i := 1246) (by decide +kernel)⟩
def lw_privs_4 : List (MethodName × Nat) := [(⟨"BridgePairsModel", "longTo", "(II)I"⟩, 36), (⟨"BridgePairsModel", "crosses", "(II)V"⟩, 36), (⟨"BridgePairsModel", "may", "(I)I"⟩, 36), (⟨"BridgePairsModel", "isBridge", "(I)Z"⟩, 36), (⟨"BridgePairsModel", "isSwap", "(II)Z"⟩, 36), (⟨"BridgePairsModel", "goSwap", "(II)V"⟩, 36), (⟨"BridgePairsModel", "dones", "()I"⟩, 36), (⟨"BridgePairsModel", "halves", "()I"⟩, 36), (⟨"BridgePairsModel", "hours", "(I)V"⟩, 36), (⟨"BridgePairsModel", "fits", "(III)I"⟩, 36), (⟨"BridgePairsModel", "isAllSeen", "(I)Z"⟩, 36), (⟨"BridgePairsModel", "all", "(III)I"⟩, 36), (⟨"BridgePairsModel", "byKind", "(IIII)I"⟩, 36), (⟨"BridgePairsModel", "body", "(I)I"⟩, 36)]
theorem lw_r4 : ∀ q ∈ lw_privs_4, lw_okq q := List.forall_mem_cons.mpr ⟨lw_p48, List.forall_mem_cons.mpr ⟨lw_p49, List.forall_mem_cons.mpr ⟨lw_p50, List.forall_mem_cons.mpr ⟨lw_p51, List.forall_mem_cons.mpr ⟨lw_p52, List.forall_mem_cons.mpr ⟨lw_p53, List.forall_mem_cons.mpr ⟨lw_p54, List.forall_mem_cons.mpr ⟨lw_p55, List.forall_mem_cons.mpr ⟨lw_p56, List.forall_mem_cons.mpr ⟨lw_p57, List.forall_mem_cons.mpr ⟨lw_p58, List.forall_mem_cons.mpr ⟨lw_p59, List.forall_mem_cons.mpr ⟨lw_p60, List.forall_mem_cons.mpr ⟨lw_p61, fun _ h => absurd h List.not_mem_nil⟩⟩⟩⟩⟩⟩⟩⟩⟩⟩⟩⟩⟩⟩
def lw_privs : List (MethodName × Nat) := lw_privs_1 ++ (lw_privs_2 ++ (lw_privs_3 ++ (lw_privs_4)))
def lw_tbl : List Cond := k2_sels lw_privs ++ tables_1
theorem lw_privs_ok : ∀ q ∈ lw_privs, lw_okq q := by
  show ∀ q ∈ lw_privs_1 ++ (lw_privs_2 ++ (lw_privs_3 ++ (lw_privs_4))), lw_okq q
  exact List.forall_mem_append.mpr ⟨lw_r1, List.forall_mem_append.mpr ⟨lw_r2, List.forall_mem_append.mpr ⟨lw_r3, lw_r4⟩⟩⟩
def RX0 : String := "BridgePairs$Acts"
def TX0 : u_T := fun k => match k with
  | 0 => ("BridgePairs$Acts", "bodies", "[I", true)
  | 1 => ("BridgePairs$Acts", "ran", "I", false)
  | 2 => ("BridgePairs$Acts", "kind", "I", false)
  | 3 => ("BridgePairs$Acts", "v", "I", false)
  | _ => ("BridgePairs$Acts", "number", "I", false)
def tyX0 : Nat → FieldType := fun k => match k with
  | 0 => .array .int
  | 1 => .int
  | 2 => .int
  | 3 => .int
  | _ => .int
abbrev wsX00 : List Cond := u_ws RX0 TX0 5
theorem nmX0 : ∀ a, a < 5 → ∀ b, b < 5 → a ≠ b → (TX0 a).2.1 ≠ (TX0 b).2.1 := by decide +kernel
theorem tyX0_ok : ∀ k, k < 5 → parseFieldDescriptor (TX0 k).2.2.1 = some (tyX0 k) := by decide +kernel
abbrev cX0_init : ByteArray := prog_2_method_1_code
def yX0_init : MethodName := ⟨RX0, "<init>", "()V"⟩
abbrev cX0_begin : ByteArray := prog_2_method_2_code
def yX0_begin : MethodName := ⟨RX0, "begin", "(LBridgePairs$Person;III)I"⟩
abbrev cX0_perform : ByteArray := prog_2_method_3_code
def yX0_perform : MethodName := ⟨RX0, "perform", "(IIII)I"⟩
abbrev cX0_answer : ByteArray := prog_2_method_4_code
def yX0_answer : MethodName := ⟨RX0, "answer", "(IIII)I"⟩
def RX1 : String := "BridgePairs$City"
def TX1 : u_T := fun k => match k with
  | 0 => ("BridgePairs$City", "dark", "I", false)
  | 1 => ("BridgePairs$City", "codes", "[I", true)
  | 2 => ("BridgePairs$City", "size", "I", false)
  | _ => ("BridgePairs$City", "facts", "[I", true)
def tyX1 : Nat → FieldType := fun k => match k with
  | 0 => .int
  | 1 => .array .int
  | 2 => .int
  | _ => .array .int
abbrev wsX10 : List Cond := u_ws RX1 TX1 4
theorem nmX1 : ∀ a, a < 4 → ∀ b, b < 4 → a ≠ b → (TX1 a).2.1 ≠ (TX1 b).2.1 := by decide +kernel
theorem tyX1_ok : ∀ k, k < 4 → parseFieldDescriptor (TX1 k).2.2.1 = some (tyX1 k) := by decide +kernel
abbrev cX1_init : ByteArray := prog_3_method_1_code
def yX1_init : MethodName := ⟨RX1, "<init>", "()V"⟩
abbrev cX1_clear : ByteArray := prog_3_method_2_code
def yX1_clear : MethodName := ⟨RX1, "clear", "()V"⟩
abbrev cX1_add : ByteArray := prog_3_method_3_code
def yX1_add : MethodName := ⟨RX1, "add", "(I)V"⟩
abbrev cX1_sum : ByteArray := prog_3_method_4_code
def yX1_sum : MethodName := ⟨RX1, "sum", "(IIIIII)I"⟩
def RX2 : String := "BridgePairs$Person"
def TX2 : u_T := fun k => match k with
  | 0 => ("BridgePairs$Person", "kind", "I", false)
  | 1 => ("BridgePairs$Person", "v", "I", false)
  | 2 => ("BridgePairs$Person", "at", "I", false)
  | 3 => ("BridgePairs$Person", "said", "I", false)
  | 4 => ("BridgePairs$Person", "errand", "I", false)
  | 5 => ("BridgePairs$Person", "half", "I", false)
  | _ => ("BridgePairs$Person", "row", "[I", true)
def tyX2 : Nat → FieldType := fun k => match k with
  | 0 => .int
  | 1 => .int
  | 2 => .int
  | 3 => .int
  | 4 => .int
  | 5 => .int
  | _ => .array .int
abbrev wsX20 : List Cond := u_ws RX2 TX2 7
theorem nmX2 : ∀ a, a < 7 → ∀ b, b < 7 → a ≠ b → (TX2 a).2.1 ≠ (TX2 b).2.1 := by decide +kernel
theorem tyX2_ok : ∀ k, k < 7 → parseFieldDescriptor (TX2 k).2.2.1 = some (tyX2 k) := by decide +kernel
abbrev cX2_init : ByteArray := prog_4_method_1_code
def yX2_init : MethodName := ⟨RX2, "<init>", "()V"⟩
abbrev cX2_become : ByteArray := prog_4_method_2_code
def yX2_become : MethodName := ⟨RX2, "become", "(III)V"⟩
abbrev cX2_copyFrom : ByteArray := prog_4_method_3_code
def yX2_copyFrom : MethodName := ⟨RX2, "copyFrom", "(LBridgePairs$Person;)V"⟩
abbrev cX2_isDone : ByteArray := prog_4_method_4_code
def yX2_isDone : MethodName := ⟨RX2, "isDone", "()Z"⟩
def RX3 : String := "BridgePairs$Rows"
def TX3 : u_T := fun k => match k with
  | 0 => ("BridgePairs$Rows", "number", "[I", true)
  | 1 => ("BridgePairs$Rows", "place", "[I", true)
  | 2 => ("BridgePairs$Rows", "hours", "[I", true)
  | _ => ("BridgePairs$Rows", "count", "I", false)
def tyX3 : Nat → FieldType := fun k => match k with
  | 0 => .array .int
  | 1 => .array .int
  | 2 => .array .int
  | _ => .int
abbrev wsX30 : List Cond := u_ws RX3 TX3 4
theorem nmX3 : ∀ a, a < 4 → ∀ b, b < 4 → a ≠ b → (TX3 a).2.1 ≠ (TX3 b).2.1 := by decide +kernel
theorem tyX3_ok : ∀ k, k < 4 → parseFieldDescriptor (TX3 k).2.2.1 = some (tyX3 k) := by decide +kernel
abbrev cX3_init : ByteArray := prog_5_method_1_code
def yX3_init : MethodName := ⟨RX3, "<init>", "(I)V"⟩
abbrev cX3_empty : ByteArray := prog_5_method_2_code
def yX3_empty : MethodName := ⟨RX3, "empty", "()I"⟩
abbrev cX3_add : ByteArray := prog_5_method_3_code
def yX3_add : MethodName := ⟨RX3, "add", "(III)I"⟩
abbrev cX3_copyFrom : ByteArray := prog_5_method_4_code
def yX3_copyFrom : MethodName := ⟨RX3, "copyFrom", "(LBridgePairs$Rows;)V"⟩
abbrev cX3_lastHour : ByteArray := prog_5_method_5_code
def yX3_lastHour : MethodName := ⟨RX3, "lastHour", "(I)I"⟩
abbrev cX3_agrees : ByteArray := prog_5_method_6_code
def yX3_agrees : MethodName := ⟨RX3, "agrees", "(III)Z"⟩
def RX4 : String := "BridgePairs$Tape"
def TX4 : u_T := fun k => match k with
  | 0 => ("BridgePairs$Tape", "sort", "I", false)
  | 1 => ("BridgePairs$Tape", "items", "[J", true)
  | _ => ("BridgePairs$Tape", "length", "I", false)
def tyX4 : Nat → FieldType := fun k => match k with
  | 0 => .int
  | 1 => .array .long
  | _ => .int
abbrev wsX40 : List Cond := u_ws RX4 TX4 3
theorem nmX4 : ∀ a, a < 3 → ∀ b, b < 3 → a ≠ b → (TX4 a).2.1 ≠ (TX4 b).2.1 := by decide +kernel
theorem tyX4_ok : ∀ k, k < 3 → parseFieldDescriptor (TX4 k).2.2.1 = some (tyX4 k) := by decide +kernel
abbrev cX4_init : ByteArray := prog_6_method_1_code
def yX4_init : MethodName := ⟨RX4, "<init>", "()V"⟩
abbrev cX4_become : ByteArray := prog_6_method_2_code
def yX4_become : MethodName := ⟨RX4, "become", "(II)V"⟩
abbrev cX4_hasPlace : ByteArray := prog_6_method_3_code
def yX4_hasPlace : MethodName := ⟨RX4, "hasPlace", "(I)Z"⟩
abbrev cX4_hasPart : ByteArray := prog_6_method_4_code
def yX4_hasPart : MethodName := ⟨RX4, "hasPart", "(II)Z"⟩
abbrev cX4_asItem : ByteArray := prog_6_method_5_code
def yX4_asItem : MethodName := ⟨RX4, "asItem", "(J)J"⟩
def RX5 : String := "BridgePairs$Text"
def TX5 : u_T := fun k => match k with
  | 0 => ("BridgePairs$Text", "signs", "[I", true)
  | 1 => ("BridgePairs$Text", "length", "I", false)
  | 2 => ("BridgePairs$Text", "place", "I", false)
  | _ => ("BridgePairs$Text", "number", "I", false)
def tyX5 : Nat → FieldType := fun k => match k with
  | 0 => .array .int
  | 1 => .int
  | 2 => .int
  | _ => .int
abbrev wsX50 : List Cond := u_ws RX5 TX5 4
theorem nmX5 : ∀ a, a < 4 → ∀ b, b < 4 → a ≠ b → (TX5 a).2.1 ≠ (TX5 b).2.1 := by decide +kernel
theorem tyX5_ok : ∀ k, k < 4 → parseFieldDescriptor (TX5 k).2.2.1 = some (tyX5 k) := by decide +kernel
abbrev cX5_init : ByteArray := prog_7_method_1_code
def yX5_init : MethodName := ⟨RX5, "<init>", "()V"⟩
abbrev cX5_append : ByteArray := prog_7_method_2_code
def yX5_append : MethodName := ⟨RX5, "append", "(I)I"⟩
abbrev cX5_readInto : ByteArray := prog_7_method_3_code
def yX5_readInto : MethodName := ⟨RX5, "readInto", "(LBridgePairs$City;)I"⟩
abbrev cX5_readClause : ByteArray := prog_7_method_4_code
def yX5_readClause : MethodName := ⟨RX5, "readClause", "(LBridgePairs$City;)Z"⟩
abbrev cX5_readExpression : ByteArray := prog_7_method_5_code
def yX5_readExpression : MethodName := ⟨RX5, "readExpression", "(LBridgePairs$City;I)Z"⟩
abbrev cX5_readFactor : ByteArray := prog_7_method_6_code
def yX5_readFactor : MethodName := ⟨RX5, "readFactor", "(LBridgePairs$City;I)Z"⟩
abbrev cX5_readDenied : ByteArray := prog_7_method_7_code
def yX5_readDenied : MethodName := ⟨RX5, "readDenied", "(LBridgePairs$City;I)Z"⟩
abbrev cX5_readTest : ByteArray := prog_7_method_8_code
def yX5_readTest : MethodName := ⟨RX5, "readTest", "(LBridgePairs$City;)Z"⟩
abbrev cX5_sign : ByteArray := prog_7_method_9_code
def yX5_sign : MethodName := ⟨RX5, "sign", "()I"⟩
abbrev cX5_takes : ByteArray := prog_7_method_10_code
def yX5_takes : MethodName := ⟨RX5, "takes", "(C)Z"⟩
abbrev cX5_takesWord : ByteArray := prog_7_method_11_code
def yX5_takesWord : MethodName := ⟨RX5, "takesWord", "(Ljava/lang/String;)Z"⟩
abbrev cX5_takesOneOf : ByteArray := prog_7_method_12_code
def yX5_takesOneOf : MethodName := ⟨RX5, "takesOneOf", "(Ljava/lang/String;)I"⟩
abbrev cX5_takesNumber : ByteArray := prog_7_method_13_code
def yX5_takesNumber : MethodName := ⟨RX5, "takesNumber", "()Z"⟩
def RX6 : String := "BridgePairs$Ways"
def TX6 : u_T := fun k => match k with
  | 0 => ("BridgePairs$Ways", "queue", "[I", true)
  | 1 => ("BridgePairs$Ways", "link", "[I", true)
  | 2 => ("BridgePairs$Ways", "isMet", "[Z", true)
  | 3 => ("BridgePairs$Ways", "may", "[I", true)
  | 4 => ("BridgePairs$Ways", "tail", "I", false)
  | _ => ("BridgePairs$Ways", "length", "I", false)
def tyX6 : Nat → FieldType := fun k => match k with
  | 0 => .array .int
  | 1 => .array .int
  | 2 => .array .boolean
  | 3 => .array .int
  | 4 => .int
  | _ => .int
abbrev wsX60 : List Cond := u_ws RX6 TX6 6
theorem nmX6 : ∀ a, a < 6 → ∀ b, b < 6 → a ≠ b → (TX6 a).2.1 ≠ (TX6 b).2.1 := by decide +kernel
theorem tyX6_ok : ∀ k, k < 6 → parseFieldDescriptor (TX6 k).2.2.1 = some (tyX6 k) := by decide +kernel
abbrev cX6_init : ByteArray := prog_8_method_1_code
def yX6_init : MethodName := ⟨RX6, "<init>", "()V"⟩
abbrev cX6_search : ByteArray := prog_8_method_2_code
def yX6_search : MethodName := ⟨RX6, "search", "(LBridgePairs$World;II)I"⟩
abbrev cX6_stepAt : ByteArray := prog_8_method_3_code
def yX6_stepAt : MethodName := ⟨RX6, "stepAt", "(I)I"⟩
abbrev cX6_reachable : ByteArray := prog_8_method_4_code
def yX6_reachable : MethodName := ⟨RX6, "reachable", "(LBridgePairs$World;I)I"⟩
abbrev cX6_begin : ByteArray := prog_8_method_5_code
def yX6_begin : MethodName := ⟨RX6, "begin", "(LBridgePairs$Person;)V"⟩
abbrev cX6_meet : ByteArray := prog_8_method_6_code
def yX6_meet : MethodName := ⟨RX6, "meet", "(II)Z"⟩
def RX7 : String := "BridgePairs$World"
def TX7 : u_T := fun k => match k with
  | 0 => ("BridgePairs$World", "bridges", "I", false)
  | 1 => ("BridgePairs$World", "first", "[I", true)
  | 2 => ("BridgePairs$World", "second", "[I", true)
  | 3 => ("BridgePairs$World", "sister", "[I", true)
  | 4 => ("BridgePairs$World", "lost", "I", false)
  | 5 => ("BridgePairs$World", "people", "I", false)
  | 6 => ("BridgePairs$World", "persons", "[LBridgePairs$Person;", true)
  | 7 => ("BridgePairs$World", "hour", "I", false)
  | 8 => ("BridgePairs$World", "city", "LBridgePairs$City;", false)
  | 9 => ("BridgePairs$World", "seen", "LBridgePairs$Rows;", true)
  | 10 => ("BridgePairs$World", "plan", "LBridgePairs$Rows;", true)
  | _ => ("BridgePairs$World", "book", "LBridgePairs$Rows;", true)
def tyX7 : Nat → FieldType := fun k => match k with
  | 0 => .int
  | 1 => .array .int
  | 2 => .array .int
  | 3 => .array .int
  | 4 => .int
  | 5 => .int
  | 6 => .array (.object "BridgePairs$Person")
  | 7 => .int
  | 8 => .object "BridgePairs$City"
  | 9 => .object "BridgePairs$Rows"
  | 10 => .object "BridgePairs$Rows"
  | _ => .object "BridgePairs$Rows"
abbrev wsX70 : List Cond := u_ws RX7 TX7 12
theorem nmX7 : ∀ a, a < 12 → ∀ b, b < 12 → a ≠ b → (TX7 a).2.1 ≠ (TX7 b).2.1 := by decide +kernel
theorem tyX7_ok : ∀ k, k < 12 → parseFieldDescriptor (TX7 k).2.2.1 = some (tyX7 k) := by decide +kernel
abbrev cX7_init : ByteArray := prog_9_method_1_code
def yX7_init : MethodName := ⟨RX7, "<init>", "()V"⟩
abbrev cX7_copyFrom : ByteArray := prog_9_method_2_code
def yX7_copyFrom : MethodName := ⟨RX7, "copyFrom", "(LBridgePairs$World;)V"⟩
abbrev cX7_addBridge : ByteArray := prog_9_method_3_code
def yX7_addBridge : MethodName := ⟨RX7, "addBridge", "(II)I"⟩
abbrev cX7_addPerson : ByteArray := prog_9_method_4_code
def yX7_addPerson : MethodName := ⟨RX7, "addPerson", "(III)I"⟩
abbrev cX7_setLost : ByteArray := prog_9_method_5_code
def yX7_setLost : MethodName := ⟨RX7, "setLost", "(IZ)V"⟩
abbrev cX7_canExchange : ByteArray := prog_9_method_6_code
def yX7_canExchange : MethodName := ⟨RX7, "canExchange", "(II)Z"⟩
abbrev cX7_exchange : ByteArray := prog_9_method_7_code
def yX7_exchange : MethodName := ⟨RX7, "exchange", "(II)V"⟩
abbrev cX7_otherEnd : ByteArray := prog_9_method_8_code
def yX7_otherEnd : MethodName := ⟨RX7, "otherEnd", "(II)I"⟩
abbrev cX7_halfBehind : ByteArray := prog_9_method_9_code
def yX7_halfBehind : MethodName := ⟨RX7, "halfBehind", "(II)I"⟩
abbrev cX7_goOver : ByteArray := prog_9_method_10_code
def yX7_goOver : MethodName := ⟨RX7, "goOver", "(II)V"⟩
abbrev cX7_leave : ByteArray := prog_9_method_11_code
def yX7_leave : MethodName := ⟨RX7, "leave", "(III)I"⟩
abbrev cX7_mayCross : ByteArray := prog_9_method_12_code
def yX7_mayCross : MethodName := ⟨RX7, "mayCross", "(III)Z"⟩
abbrev cX7_dark : ByteArray := prog_9_method_13_code
def yX7_dark : MethodName := ⟨RX7, "dark", "()I"⟩
abbrev cX7_arrived : ByteArray := prog_9_method_14_code
def yX7_arrived : MethodName := ⟨RX7, "arrived", "()I"⟩
abbrev cX7_halves : ByteArray := prog_9_method_15_code
def yX7_halves : MethodName := ⟨RX7, "halves", "()I"⟩
def RX8 : String := "BridgePairs"
def TX8 : u_T := fun k => match k with
  | 0 => ("BridgePairs", "now", "LBridgePairs$World;", true)
  | 1 => ("BridgePairs", "kept", "LBridgePairs$World;", true)
  | 2 => ("BridgePairs", "trial", "LBridgePairs$World;", true)
  | 3 => ("BridgePairs", "ways", "LBridgePairs$Ways;", true)
  | 4 => ("BridgePairs", "text", "LBridgePairs$Text;", true)
  | 5 => ("BridgePairs", "cities", "[LBridgePairs$City;", true)
  | 6 => ("BridgePairs", "tapes", "[LBridgePairs$Tape;", true)
  | 7 => ("BridgePairs", "acts", "LBridgePairs$Acts;", true)
  | 8 => ("BridgePairs", "cityCount", "I", false)
  | _ => ("BridgePairs", "hasImage", "Z", false)
def tyX8 : Nat → FieldType := fun k => match k with
  | 0 => .object "BridgePairs$World"
  | 1 => .object "BridgePairs$World"
  | 2 => .object "BridgePairs$World"
  | 3 => .object "BridgePairs$Ways"
  | 4 => .object "BridgePairs$Text"
  | 5 => .array (.object "BridgePairs$City")
  | 6 => .array (.object "BridgePairs$Tape")
  | 7 => .object "BridgePairs$Acts"
  | 8 => .int
  | _ => .boolean
abbrev wsX80 : List Cond := u_ws RX8 TX8 10
theorem nmX8 : ∀ a, a < 10 → ∀ b, b < 10 → a ≠ b → (TX8 a).2.1 ≠ (TX8 b).2.1 := by decide +kernel
theorem tyX8_ok : ∀ k, k < 10 → parseFieldDescriptor (TX8 k).2.2.1 = some (tyX8 k) := by decide +kernel
abbrev cX8_init : ByteArray := prog_1_method_1_code
def yX8_init : MethodName := ⟨RX8, "<init>", "()V"⟩
abbrev cX8_bridge : ByteArray := prog_1_method_2_code
def yX8_bridge : MethodName := ⟨RX8, "bridge", "(II)I"⟩
abbrev cX8_one : ByteArray := prog_1_method_3_code
def yX8_one : MethodName := ⟨RX8, "one", "(III)I"⟩
abbrev cX8_of : ByteArray := prog_1_method_4_code
def yX8_of : MethodName := ⟨RX8, "of", "(II)I"⟩
abbrev cX8_span : ByteArray := prog_1_method_5_code
def yX8_span : MethodName := ⟨RX8, "span", "(II)I"⟩
abbrev cX8_errand : ByteArray := prog_1_method_6_code
def yX8_errand : MethodName := ⟨RX8, "errand", "(II)I"⟩
abbrev cX8_cross : ByteArray := prog_1_method_7_code
def yX8_cross : MethodName := ⟨RX8, "cross", "(II)I"⟩
abbrev cX8_lose : ByteArray := prog_1_method_8_code
def yX8_lose : MethodName := ⟨RX8, "lose", "(IZ)I"⟩
abbrev cX8_swap : ByteArray := prog_1_method_9_code
def yX8_swap : MethodName := ⟨RX8, "swap", "(II)I"⟩
abbrev cX8_row : ByteArray := prog_1_method_10_code
def yX8_row : MethodName := ⟨RX8, "row", "(III)I"⟩
abbrev cX8_feed : ByteArray := prog_1_method_11_code
def yX8_feed : MethodName := ⟨RX8, "feed", "(I)I"⟩
abbrev cX8_city : ByteArray := prog_1_method_12_code
def yX8_city : MethodName := ⟨RX8, "city", "()I"⟩
abbrev cX8_told : ByteArray := prog_1_method_13_code
def yX8_told : MethodName := ⟨RX8, "told", "(I)I"⟩
abbrev cX8_pass : ByteArray := prog_1_method_14_code
def yX8_pass : MethodName := ⟨RX8, "pass", "(I)I"⟩
abbrev cX8_on : ByteArray := prog_1_method_15_code
def yX8_on : MethodName := ⟨RX8, "on", "(II)I"⟩
abbrev cX8_way : ByteArray := prog_1_method_16_code
def yX8_way : MethodName := ⟨RX8, "way", "(III)I"⟩
abbrev cX8_sisters : ByteArray := prog_1_method_17_code
def yX8_sisters : MethodName := ⟨RX8, "sisters", "(II)I"⟩
abbrev cX8_see : ByteArray := prog_1_method_18_code
def yX8_see : MethodName := ⟨RX8, "see", "(III)I"⟩
abbrev cX8_from : ByteArray := prog_1_method_19_code
def yX8_from : MethodName := ⟨RX8, "from", "(I)I"⟩
abbrev cX8_can : ByteArray := prog_1_method_20_code
def yX8_can : MethodName := ⟨RX8, "can", "(II)I"⟩
abbrev cX8_odds : ByteArray := prog_1_method_21_code
def yX8_odds : MethodName := ⟨RX8, "odds", "(III)J"⟩
abbrev cX8_mean : ByteArray := prog_1_method_22_code
def yX8_mean : MethodName := ⟨RX8, "mean", "(I)J"⟩
abbrev cX8_plan : ByteArray := prog_1_method_23_code
def yX8_plan : MethodName := ⟨RX8, "plan", "(II)I"⟩
abbrev cX8_ends : ByteArray := prog_1_method_24_code
def yX8_ends : MethodName := ⟨RX8, "ends", "(I)I"⟩
abbrev cX8_book : ByteArray := prog_1_method_25_code
def yX8_book : MethodName := ⟨RX8, "book", "(II)I"⟩
abbrev cX8_looked : ByteArray := prog_1_method_26_code
def yX8_looked : MethodName := ⟨RX8, "looked", "()I"⟩
abbrev cX8_judge : ByteArray := prog_1_method_27_code
def yX8_judge : MethodName := ⟨RX8, "judge", "(II)I"⟩
abbrev cX8_image : ByteArray := prog_1_method_28_code
def yX8_image : MethodName := ⟨RX8, "image", "()I"⟩
abbrev cX8_undo : ByteArray := prog_1_method_29_code
def yX8_undo : MethodName := ⟨RX8, "undo", "()I"⟩
abbrev cX8_act : ByteArray := prog_1_method_30_code
def yX8_act : MethodName := ⟨RX8, "act", "(III)I"⟩
abbrev cX8_trace : ByteArray := prog_1_method_31_code
def yX8_trace : MethodName := ⟨RX8, "trace", "(I)I"⟩
abbrev cX8_taken : ByteArray := prog_1_method_32_code
def yX8_taken : MethodName := ⟨RX8, "taken", "(II)I"⟩
abbrev cX8_count : ByteArray := prog_1_method_33_code
def yX8_count : MethodName := ⟨RX8, "count", "(I)I"⟩
abbrev cX8_tape : ByteArray := prog_1_method_34_code
def yX8_tape : MethodName := ⟨RX8, "tape", "(III)I"⟩
abbrev cX8_item : ByteArray := prog_1_method_35_code
def yX8_item : MethodName := ⟨RX8, "item", "(IIJ)I"⟩
abbrev cX8_read : ByteArray := prog_1_method_36_code
def yX8_read : MethodName := ⟨RX8, "read", "(II)J"⟩
abbrev cX8_shift : ByteArray := prog_1_method_37_code
def yX8_shift : MethodName := ⟨RX8, "shift", "(IIIII)I"⟩
abbrev cX8_isQuarter : ByteArray := prog_1_method_38_code
def yX8_isQuarter : MethodName := ⟨RX8, "isQuarter", "(I)Z"⟩
abbrev cX8_isTape : ByteArray := prog_1_method_39_code
def yX8_isTape : MethodName := ⟨RX8, "isTape", "(I)Z"⟩
abbrev cX8_isPart : ByteArray := prog_1_method_40_code
def yX8_isPart : MethodName := ⟨RX8, "isPart", "(I)Z"⟩
abbrev cX8_isPerson : ByteArray := prog_1_method_41_code
def yX8_isPerson : MethodName := ⟨RX8, "isPerson", "(I)Z"⟩
abbrev cX8_isBridge : ByteArray := prog_1_method_42_code
def yX8_isBridge : MethodName := ⟨RX8, "isBridge", "(I)Z"⟩
abbrev cX8_isUnder : ByteArray := prog_1_method_43_code
def yX8_isUnder : MethodName := ⟨RX8, "isUnder", "(II)Z"⟩
abbrev cX8_lengthOrFar : ByteArray := prog_1_method_44_code
def yX8_lengthOrFar : MethodName := ⟨RX8, "lengthOrFar", "(I)I"⟩
abbrev cX8_lowest : ByteArray := prog_1_method_45_code
def yX8_lowest : MethodName := ⟨RX8, "lowest", "(III)J"⟩
abbrev cX8_hoursGo : ByteArray := prog_1_method_46_code
def yX8_hoursGo : MethodName := ⟨RX8, "hoursGo", "(LBridgePairs$World;II)V"⟩
abbrev cX8_hoursUntilDone : ByteArray := prog_1_method_47_code
def yX8_hoursUntilDone : MethodName := ⟨RX8, "hoursUntilDone", "(I)I"⟩
abbrev cX8_crossable : ByteArray := prog_1_method_48_code
def yX8_crossable : MethodName := ⟨RX8, "crossable", "(I)I"⟩
abbrev cX8_leaveNow : ByteArray := prog_1_method_49_code
def yX8_leaveNow : MethodName := ⟨RX8, "leaveNow", "(II)I"⟩
abbrev cX8_goesAsSeen : ByteArray := prog_1_method_50_code
def yX8_goesAsSeen : MethodName := ⟨RX8, "goesAsSeen", "(I)Z"⟩
def RX9 : String := "BridgePairsModel"
def TX9 : u_T := fun k => match k with
  | 0 => ("BridgePairsModel", "now", "[I", true)
  | 1 => ("BridgePairsModel", "mind", "[I", true)
  | 2 => ("BridgePairsModel", "then", "[I", true)
  | 3 => ("BridgePairsModel", "kept", "Z", false)
  | 4 => ("BridgePairsModel", "text", "[I", true)
  | 5 => ("BridgePairsModel", "texted", "I", false)
  | 6 => ("BridgePairsModel", "rules", "[I", true)
  | 7 => ("BridgePairsModel", "sizes", "[I", true)
  | 8 => ("BridgePairsModel", "ruled", "I", false)
  | 9 => ("BridgePairsModel", "read", "[I", true)
  | 10 => ("BridgePairsModel", "size", "I", false)
  | 11 => ("BridgePairsModel", "at", "I", false)
  | 12 => ("BridgePairsModel", "well", "Z", false)
  | 13 => ("BridgePairsModel", "within", "I", false)
  | 14 => ("BridgePairsModel", "sum", "I", false)
  | 15 => ("BridgePairsModel", "dark", "I", false)
  | 16 => ("BridgePairsModel", "names", "[I", true)
  | 17 => ("BridgePairsModel", "letters", "[C", true)
  | 18 => ("BridgePairsModel", "begins", "[C", true)
  | 19 => ("BridgePairsModel", "words", "[C", true)
  | 20 => ("BridgePairsModel", "mays", "[I", true)
  | 21 => ("BridgePairsModel", "been", "[Z", true)
  | 22 => ("BridgePairsModel", "come", "[I", true)
  | 23 => ("BridgePairsModel", "from", "[I", true)
  | 24 => ("BridgePairsModel", "by", "[I", true)
  | 25 => ("BridgePairsModel", "far", "[I", true)
  | 26 => ("BridgePairsModel", "comes", "I", false)
  | 27 => ("BridgePairsModel", "steps", "[I", true)
  | 28 => ("BridgePairsModel", "above", "[I", true)
  | 29 => ("BridgePairsModel", "bodies", "[I", true)
  | 30 => ("BridgePairsModel", "trace", "[I", true)
  | 31 => ("BridgePairsModel", "ran", "I", false)
  | 32 => ("BridgePairsModel", "sorts", "[I", true)
  | 33 => ("BridgePairsModel", "lengths", "[I", true)
  | 34 => ("BridgePairsModel", "items", "[J", true)
  | _ => ("BridgePairsModel", "moved", "[J", true)
def tyX9 : Nat → FieldType := fun k => match k with
  | 0 => .array .int
  | 1 => .array .int
  | 2 => .array .int
  | 3 => .boolean
  | 4 => .array .int
  | 5 => .int
  | 6 => .array .int
  | 7 => .array .int
  | 8 => .int
  | 9 => .array .int
  | 10 => .int
  | 11 => .int
  | 12 => .boolean
  | 13 => .int
  | 14 => .int
  | 15 => .int
  | 16 => .array .int
  | 17 => .array .char
  | 18 => .array .char
  | 19 => .array .char
  | 20 => .array .int
  | 21 => .array .boolean
  | 22 => .array .int
  | 23 => .array .int
  | 24 => .array .int
  | 25 => .array .int
  | 26 => .int
  | 27 => .array .int
  | 28 => .array .int
  | 29 => .array .int
  | 30 => .array .int
  | 31 => .int
  | 32 => .array .int
  | 33 => .array .int
  | 34 => .array .long
  | _ => .array .long
abbrev wsX90 : List Cond := u_ws RX9 TX9 36
theorem nmX9 : ∀ a, a < 36 → ∀ b, b < 36 → a ≠ b → (TX9 a).2.1 ≠ (TX9 b).2.1 := by decide +kernel
theorem tyX9_ok : ∀ k, k < 36 → parseFieldDescriptor (TX9 k).2.2.1 = some (tyX9 k) := by decide +kernel
abbrev cX9_init : ByteArray := prog_11_method_1_code
def yX9_init : MethodName := ⟨RX9, "<init>", "()V"⟩
abbrev cX9_isIn : ByteArray := prog_11_method_2_code
def yX9_isIn : MethodName := ⟨RX9, "isIn", "(III)Z"⟩
abbrev cX9_move : ByteArray := prog_11_method_3_code
def yX9_move : MethodName := ⟨RX9, "move", "([I[I)V"⟩
abbrev cX9_image : ByteArray := prog_11_method_4_code
def yX9_image : MethodName := ⟨RX9, "image", "()I"⟩
abbrev cX9_undo : ByteArray := prog_11_method_5_code
def yX9_undo : MethodName := ⟨RX9, "undo", "()I"⟩
abbrev cX9_isQuarter : ByteArray := prog_11_method_6_code
def yX9_isQuarter : MethodName := ⟨RX9, "isQuarter", "(I)Z"⟩
abbrev cX9_isBridge : ByteArray := prog_11_method_7_code
def yX9_isBridge : MethodName := ⟨RX9, "isBridge", "(I)Z"⟩
abbrev cX9_isOne : ByteArray := prog_11_method_8_code
def yX9_isOne : MethodName := ⟨RX9, "isOne", "(I)Z"⟩
abbrev cX9_one : ByteArray := prog_11_method_9_code
def yX9_one : MethodName := ⟨RX9, "one", "(II)I"⟩
abbrev cX9_change : ByteArray := prog_11_method_10_code
def yX9_change : MethodName := ⟨RX9, "change", "(III)I"⟩
abbrev cX9_end : ByteArray := prog_11_method_11_code
def yX9_end : MethodName := ⟨RX9, "end", "(II)I"⟩
abbrev cX9_sister : ByteArray := prog_11_method_12_code
def yX9_sister : MethodName := ⟨RX9, "sister", "(I)I"⟩
abbrev cX9_isLost : ByteArray := prog_11_method_13_code
def yX9_isLost : MethodName := ⟨RX9, "isLost", "(I)Z"⟩
abbrev cX9_many : ByteArray := prog_11_method_14_code
def yX9_many : MethodName := ⟨RX9, "many", "(I)I"⟩
abbrev cX9_orNever : ByteArray := prog_11_method_15_code
def yX9_orNever : MethodName := ⟨RX9, "orNever", "(I)I"⟩
abbrev cX9_bridge : ByteArray := prog_11_method_16_code
def yX9_bridge : MethodName := ⟨RX9, "bridge", "(II)I"⟩
abbrev cX9_one_ : ByteArray := prog_11_method_17_code
def yX9_one_ : MethodName := ⟨RX9, "one", "(III)I"⟩
abbrev cX9_of : ByteArray := prog_11_method_18_code
def yX9_of : MethodName := ⟨RX9, "of", "(II)I"⟩
abbrev cX9_span : ByteArray := prog_11_method_19_code
def yX9_span : MethodName := ⟨RX9, "span", "(II)I"⟩
abbrev cX9_errand : ByteArray := prog_11_method_20_code
def yX9_errand : MethodName := ⟨RX9, "errand", "(II)I"⟩
abbrev cX9_cross : ByteArray := prog_11_method_21_code
def yX9_cross : MethodName := ⟨RX9, "cross", "(II)I"⟩
abbrev cX9_lose : ByteArray := prog_11_method_22_code
def yX9_lose : MethodName := ⟨RX9, "lose", "(IZ)I"⟩
abbrev cX9_isSwap : ByteArray := prog_11_method_23_code
def yX9_isSwap : MethodName := ⟨RX9, "isSwap", "(II)Z"⟩
abbrev cX9_goSwap : ByteArray := prog_11_method_24_code
def yX9_goSwap : MethodName := ⟨RX9, "goSwap", "(II)V"⟩
abbrev cX9_swap : ByteArray := prog_11_method_25_code
def yX9_swap : MethodName := ⟨RX9, "swap", "(II)I"⟩
abbrev cX9_row : ByteArray := prog_11_method_26_code
def yX9_row : MethodName := ⟨RX9, "row", "(III)I"⟩
abbrev cX9_feed : ByteArray := prog_11_method_27_code
def yX9_feed : MethodName := ⟨RX9, "feed", "(I)I"⟩
abbrev cX9_isAt : ByteArray := prog_11_method_28_code
def yX9_isAt : MethodName := ⟨RX9, "isAt", "(I)Z"⟩
abbrev cX9_takes : ByteArray := prog_11_method_29_code
def yX9_takes : MethodName := ⟨RX9, "takes", "(I)V"⟩
abbrev cX9_isDigit : ByteArray := prog_11_method_30_code
def yX9_isDigit : MethodName := ⟨RX9, "isDigit", "()Z"⟩
abbrev cX9_number : ByteArray := prog_11_method_31_code
def yX9_number : MethodName := ⟨RX9, "number", "()I"⟩
abbrev cX9_test : ByteArray := prog_11_method_32_code
def yX9_test : MethodName := ⟨RX9, "test", "()Z"⟩
abbrev cX9_factor : ByteArray := prog_11_method_33_code
def yX9_factor : MethodName := ⟨RX9, "factor", "()Z"⟩
abbrev cX9_both : ByteArray := prog_11_method_34_code
def yX9_both : MethodName := ⟨RX9, "both", "()Z"⟩
abbrev cX9_any : ByteArray := prog_11_method_35_code
def yX9_any : MethodName := ⟨RX9, "any", "()Z"⟩
abbrev cX9_clause : ByteArray := prog_11_method_36_code
def yX9_clause : MethodName := ⟨RX9, "clause", "()V"⟩
abbrev cX9_readAll : ByteArray := prog_11_method_37_code
def yX9_readAll : MethodName := ⟨RX9, "readAll", "()Z"⟩
abbrev cX9_readFor : ByteArray := prog_11_method_38_code
def yX9_readFor : MethodName := ⟨RX9, "readFor", "(II)V"⟩
abbrev cX9_city : ByteArray := prog_11_method_39_code
def yX9_city : MethodName := ⟨RX9, "city", "()I"⟩
abbrev cX9_leave : ByteArray := prog_11_method_40_code
def yX9_leave : MethodName := ⟨RX9, "leave", "(II)I"⟩
abbrev cX9_mayAnywhere : ByteArray := prog_11_method_41_code
def yX9_mayAnywhere : MethodName := ⟨RX9, "mayAnywhere", "(I)I"⟩
abbrev cX9_may : ByteArray := prog_11_method_42_code
def yX9_may : MethodName := ⟨RX9, "may", "(I)I"⟩
abbrev cX9_halfBy : ByteArray := prog_11_method_43_code
def yX9_halfBy : MethodName := ⟨RX9, "halfBy", "(II)I"⟩
abbrev cX9_crosses : ByteArray := prog_11_method_44_code
def yX9_crosses : MethodName := ⟨RX9, "crosses", "(II)V"⟩
abbrev cX9_isTruly : ByteArray := prog_11_method_45_code
def yX9_isTruly : MethodName := ⟨RX9, "isTruly", "(II)Z"⟩
abbrev cX9_arrive : ByteArray := prog_11_method_46_code
def yX9_arrive : MethodName := ⟨RX9, "arrive", "(IIII)V"⟩
abbrev cX9_explore : ByteArray := prog_11_method_47_code
def yX9_explore : MethodName := ⟨RX9, "explore", "(I)V"⟩
abbrev cX9_longTo : ByteArray := prog_11_method_48_code
def yX9_longTo : MethodName := ⟨RX9, "longTo", "(II)I"⟩
abbrev cX9_reach : ByteArray := prog_11_method_49_code
def yX9_reach : MethodName := ⟨RX9, "reach", "(I)I"⟩
abbrev cX9_hour : ByteArray := prog_11_method_50_code
def yX9_hour : MethodName := ⟨RX9, "hour", "()V"⟩
abbrev cX9_hours : ByteArray := prog_11_method_51_code
def yX9_hours : MethodName := ⟨RX9, "hours", "(I)V"⟩
abbrev cX9_isDone : ByteArray := prog_11_method_52_code
def yX9_isDone : MethodName := ⟨RX9, "isDone", "(I)Z"⟩
abbrev cX9_dones : ByteArray := prog_11_method_53_code
def yX9_dones : MethodName := ⟨RX9, "dones", "()I"⟩
abbrev cX9_halves : ByteArray := prog_11_method_54_code
def yX9_halves : MethodName := ⟨RX9, "halves", "()I"⟩
abbrev cX9_done : ByteArray := prog_11_method_55_code
def yX9_done : MethodName := ⟨RX9, "done", "(I)I"⟩
abbrev cX9_told : ByteArray := prog_11_method_56_code
def yX9_told : MethodName := ⟨RX9, "told", "(I)I"⟩
abbrev cX9_pass : ByteArray := prog_11_method_57_code
def yX9_pass : MethodName := ⟨RX9, "pass", "(I)I"⟩
abbrev cX9_on : ByteArray := prog_11_method_58_code
def yX9_on : MethodName := ⟨RX9, "on", "(II)I"⟩
abbrev cX9_way : ByteArray := prog_11_method_59_code
def yX9_way : MethodName := ⟨RX9, "way", "(III)I"⟩
abbrev cX9_late : ByteArray := prog_11_method_60_code
def yX9_late : MethodName := ⟨RX9, "late", "(I)I"⟩
abbrev cX9_sisters : ByteArray := prog_11_method_61_code
def yX9_sisters : MethodName := ⟨RX9, "sisters", "(II)I"⟩
abbrev cX9_see : ByteArray := prog_11_method_62_code
def yX9_see : MethodName := ⟨RX9, "see", "(III)I"⟩
abbrev cX9_isAllSeen : ByteArray := prog_11_method_63_code
def yX9_isAllSeen : MethodName := ⟨RX9, "isAllSeen", "(I)Z"⟩
abbrev cX9_fits : ByteArray := prog_11_method_64_code
def yX9_fits : MethodName := ⟨RX9, "fits", "(III)I"⟩
abbrev cX9_from : ByteArray := prog_11_method_65_code
def yX9_from : MethodName := ⟨RX9, "from", "(I)I"⟩
abbrev cX9_can : ByteArray := prog_11_method_66_code
def yX9_can : MethodName := ⟨RX9, "can", "(II)I"⟩
abbrev cX9_fraction : ByteArray := prog_11_method_67_code
def yX9_fraction : MethodName := ⟨RX9, "fraction", "(JJI)J"⟩
abbrev cX9_odds : ByteArray := prog_11_method_68_code
def yX9_odds : MethodName := ⟨RX9, "odds", "(III)J"⟩
abbrev cX9_mean : ByteArray := prog_11_method_69_code
def yX9_mean : MethodName := ⟨RX9, "mean", "(I)J"⟩
abbrev cX9_plan : ByteArray := prog_11_method_70_code
def yX9_plan : MethodName := ⟨RX9, "plan", "(II)I"⟩
abbrev cX9_ends : ByteArray := prog_11_method_71_code
def yX9_ends : MethodName := ⟨RX9, "ends", "(I)I"⟩
abbrev cX9_book : ByteArray := prog_11_method_72_code
def yX9_book : MethodName := ⟨RX9, "book", "(II)I"⟩
abbrev cX9_looked : ByteArray := prog_11_method_73_code
def yX9_looked : MethodName := ⟨RX9, "looked", "()I"⟩
abbrev cX9_body : ByteArray := prog_11_method_74_code
def yX9_body : MethodName := ⟨RX9, "body", "(I)I"⟩
abbrev cX9_all : ByteArray := prog_11_method_75_code
def yX9_all : MethodName := ⟨RX9, "all", "(III)I"⟩
abbrev cX9_byKind : ByteArray := prog_11_method_76_code
def yX9_byKind : MethodName := ⟨RX9, "byKind", "(IIII)I"⟩
abbrev cX9_act : ByteArray := prog_11_method_77_code
def yX9_act : MethodName := ⟨RX9, "act", "(III)I"⟩
abbrev cX9_trace : ByteArray := prog_11_method_78_code
def yX9_trace : MethodName := ⟨RX9, "trace", "(I)I"⟩
abbrev cX9_taken : ByteArray := prog_11_method_79_code
def yX9_taken : MethodName := ⟨RX9, "taken", "(II)I"⟩
abbrev cX9_count : ByteArray := prog_11_method_80_code
def yX9_count : MethodName := ⟨RX9, "count", "(I)I"⟩
abbrev cX9_isTape : ByteArray := prog_11_method_81_code
def yX9_isTape : MethodName := ⟨RX9, "isTape", "(I)Z"⟩
abbrev cX9_tape : ByteArray := prog_11_method_82_code
def yX9_tape : MethodName := ⟨RX9, "tape", "(III)I"⟩
abbrev cX9_item : ByteArray := prog_11_method_83_code
def yX9_item : MethodName := ⟨RX9, "item", "(IIJ)I"⟩
abbrev cX9_read : ByteArray := prog_11_method_84_code
def yX9_read : MethodName := ⟨RX9, "read", "(II)J"⟩
abbrev cX9_shift : ByteArray := prog_11_method_85_code
def yX9_shift : MethodName := ⟨RX9, "shift", "(IIIII)I"⟩
abbrev cX9_judge : ByteArray := prog_11_method_86_code
def yX9_judge : MethodName := ⟨RX9, "judge", "(II)I"⟩
def RJ11 : String := "java/lang/Character"
def TJ11 : u_T := fun k => match k with
  | _ => ("", "", "", false)
def tyJ11 : Nat → FieldType := fun k => match k with
  | _ => .int
theorem tyJ11_ok : ∀ k, k < 0 → parseFieldDescriptor (TJ11 k).2.2.1 = some (tyJ11 k) := by decide +kernel
abbrev cJ11_isValidCodePoint_9a6ad : ByteArray := prog_12_method_11_code
def yJ11_isValidCodePoint_9a6ad : MethodName := ⟨RJ11, "isValidCodePoint", "(I)Z"⟩
abbrev cJ11_highSurrogate_5068e : ByteArray := prog_12_method_28_code
def yJ11_highSurrogate_5068e : MethodName := ⟨RJ11, "highSurrogate", "(I)C"⟩
abbrev cJ11_lowSurrogate_5068e : ByteArray := prog_12_method_29_code
def yJ11_lowSurrogate_5068e : MethodName := ⟨RJ11, "lowSurrogate", "(I)C"⟩
def RJ6 : String := "java/lang/Integer"
def TJ6 : u_T := fun k => match k with
  | _ => ("", "", "", false)
def tyJ6 : Nat → FieldType := fun k => match k with
  | _ => .int
theorem tyJ6_ok : ∀ k, k < 0 → parseFieldDescriptor (TJ6 k).2.2.1 = some (tyJ6 k) := by decide +kernel
abbrev cJ6_bitCount_0f7a4 : ByteArray := prog_13_method_49_code
def yJ6_bitCount_0f7a4 : MethodName := ⟨RJ6, "bitCount", "(I)I"⟩
def RJ9 : String := "java/lang/Math"
def TJ9 : u_T := fun k => match k with
  | _ => ("", "", "", false)
def tyJ9 : Nat → FieldType := fun k => match k with
  | _ => .int
theorem tyJ9_ok : ∀ k, k < 0 → parseFieldDescriptor (TJ9 k).2.2.1 = some (tyJ9 k) := by decide +kernel
abbrev cJ9_max_7cf53 : ByteArray := prog_14_method_65_code
def yJ9_max_7cf53 : MethodName := ⟨RJ9, "max", "(II)I"⟩
abbrev cJ9_min_7cf53 : ByteArray := prog_14_method_69_code
def yJ9_min_7cf53 : MethodName := ⟨RJ9, "min", "(II)I"⟩
def RJ0 : String := "java/lang/String"
def TJ0 : u_T := fun k => match k with
  | _ => ("", "", "", false)
def tyJ0 : Nat → FieldType := fun k => match k with
  | _ => .int
theorem tyJ0_ok : ∀ k, k < 0 → parseFieldDescriptor (TJ0 k).2.2.1 = some (tyJ0 k) := by decide +kernel
abbrev cJ0_length_8abf5 : ByteArray := prog_15_method_54_code
def yJ0_length_8abf5 : MethodName := ⟨RJ0, "length", "()I"⟩
abbrev cJ0_charAt_5068e : ByteArray := prog_15_method_56_code
def yJ0_charAt_5068e : MethodName := ⟨RJ0, "charAt", "(I)C"⟩
abbrev cJ0_indexOf_0f7a4 : ByteArray := prog_15_method_79_code
def yJ0_indexOf_0f7a4 : MethodName := ⟨RJ0, "indexOf", "(I)I"⟩
abbrev cJ0_indexOf_7cf53 : ByteArray := prog_15_method_80_code
def yJ0_indexOf_7cf53 : MethodName := ⟨RJ0, "indexOf", "(II)I"⟩
abbrev cJ0_coder_7d493 : ByteArray := prog_15_method_152_code
def yJ0_coder_7d493 : MethodName := ⟨RJ0, "coder", "()B"⟩
abbrev cJ0_isLatin1_aae02 : ByteArray := prog_15_method_154_code
def yJ0_isLatin1_aae02 : MethodName := ⟨RJ0, "isLatin1", "()Z"⟩
abbrev cJ0_checkIndex_df160 : ByteArray := prog_15_method_155_code
def yJ0_checkIndex_df160 : MethodName := ⟨RJ0, "checkIndex", "(II)V"⟩
abbrev cJ0_checkBoundsBeginEnd_23922 : ByteArray := prog_15_method_158_code
def yJ0_checkBoundsBeginEnd_23922 : MethodName := ⟨RJ0, "checkBoundsBeginEnd", "(III)V"⟩
def RJ1 : String := "java/lang/StringLatin1"
def TJ1 : u_T := fun k => match k with
  | _ => ("", "", "", false)
def tyJ1 : Nat → FieldType := fun k => match k with
  | _ => .int
theorem tyJ1_ok : ∀ k, k < 0 → parseFieldDescriptor (TJ1 k).2.2.1 = some (tyJ1 k) := by decide +kernel
abbrev cJ1_charAt_3b067 : ByteArray := prog_16_method_2_code
def yJ1_charAt_3b067 : MethodName := ⟨RJ1, "charAt", "([BI)C"⟩
abbrev cJ1_canEncode_9a6ad : ByteArray := prog_16_method_4_code
def yJ1_canEncode_9a6ad : MethodName := ⟨RJ1, "canEncode", "(I)Z"⟩
abbrev cJ1_indexOf_4cfef : ByteArray := prog_16_method_22_code
def yJ1_indexOf_4cfef : MethodName := ⟨RJ1, "indexOf", "([BIII)I"⟩
abbrev cJ1_indexOfChar_4cfef : ByteArray := prog_16_method_23_code
def yJ1_indexOfChar_4cfef : MethodName := ⟨RJ1, "indexOfChar", "([BIII)I"⟩
def RJ2 : String := "java/lang/StringUTF16"
def TJ2 : u_T := fun k => match k with
  | _ => ("", "", "", false)
def tyJ2 : Nat → FieldType := fun k => match k with
  | _ => .int
theorem tyJ2_ok : ∀ k, k < 0 → parseFieldDescriptor (TJ2 k).2.2.1 = some (tyJ2 k) := by decide +kernel
abbrev cJ2_getChar_3b067 : ByteArray := prog_17_method_5_code
def yJ2_getChar_3b067 : MethodName := ⟨RJ2, "getChar", "([BI)C"⟩
abbrev cJ2_length_9d52b : ByteArray := prog_17_method_6_code
def yJ2_length_9d52b : MethodName := ⟨RJ2, "length", "([B)I"⟩
abbrev cJ2_indexOf_4cfef : ByteArray := prog_17_method_40_code
def yJ2_indexOf_4cfef : MethodName := ⟨RJ2, "indexOf", "([BIII)I"⟩
abbrev cJ2_indexOfChar_4cfef : ByteArray := prog_17_method_47_code
def yJ2_indexOfChar_4cfef : MethodName := ⟨RJ2, "indexOfChar", "([BIII)I"⟩
abbrev cJ2_indexOfCharUnsafe_4cfef : ByteArray := prog_17_method_48_code
def yJ2_indexOfCharUnsafe_4cfef : MethodName := ⟨RJ2, "indexOfCharUnsafe", "([BIII)I"⟩
abbrev cJ2_indexOfSupplementary_4cfef : ByteArray := prog_17_method_49_code
def yJ2_indexOfSupplementary_4cfef : MethodName := ⟨RJ2, "indexOfSupplementary", "([BIII)I"⟩
abbrev cJ2_charAt_3b067 : ByteArray := prog_17_method_83_code
def yJ2_charAt_3b067 : MethodName := ⟨RJ2, "charAt", "([BI)C"⟩
abbrev cJ2_checkIndex_2214a : ByteArray := prog_17_method_91_code
def yJ2_checkIndex_2214a : MethodName := ⟨RJ2, "checkIndex", "(I[B)V"⟩
abbrev cJ2_checkBoundsBeginEnd_d044e : ByteArray := prog_17_method_93_code
def yJ2_checkBoundsBeginEnd_d044e : MethodName := ⟨RJ2, "checkBoundsBeginEnd", "(II[B)V"⟩
def RJ10 : String := "java/lang/System"
def TJ10 : u_T := fun k => match k with
  | _ => ("", "", "", false)
def tyJ10 : Nat → FieldType := fun k => match k with
  | _ => .int
theorem tyJ10_ok : ∀ k, k < 0 → parseFieldDescriptor (TJ10 k).2.2.1 = some (tyJ10 k) := by decide +kernel
def RJ7 : String := "java/util/Arrays"
def TJ7 : u_T := fun k => match k with
  | _ => ("", "", "", false)
def tyJ7 : Nat → FieldType := fun k => match k with
  | _ => .int
theorem tyJ7_ok : ∀ k, k < 0 → parseFieldDescriptor (TJ7 k).2.2.1 = some (tyJ7 k) := by decide +kernel
abbrev cJ7_fill_d0a16 : ByteArray := prog_19_method_101_code
def yJ7_fill_d0a16 : MethodName := ⟨RJ7, "fill", "([JJ)V"⟩
abbrev cJ7_fill_53178 : ByteArray := prog_19_method_103_code
def yJ7_fill_53178 : MethodName := ⟨RJ7, "fill", "([II)V"⟩
def RJ3 : String := "jdk/internal/util/Preconditions"
def TJ3 : u_T := fun k => match k with
  | _ => ("", "", "", false)
def tyJ3 : Nat → FieldType := fun k => match k with
  | _ => .int
theorem tyJ3_ok : ∀ k, k < 0 → parseFieldDescriptor (TJ3 k).2.2.1 = some (tyJ3 k) := by decide +kernel
abbrev cJ3_checkIndex_8e157 : ByteArray := prog_20_method_11_code
def yJ3_checkIndex_8e157 : MethodName := ⟨RJ3, "checkIndex", "(IILjava/util/function/BiFunction;)I"⟩
abbrev cJ3_checkFromToIndex_8c36e : ByteArray := prog_20_method_12_code
def yJ3_checkFromToIndex_8c36e : MethodName := ⟨RJ3, "checkFromToIndex", "(IIILjava/util/function/BiFunction;)I"⟩
def RL : String := "BridgePairsLaw"
abbrev cL_law : ByteArray := code
def yL_law : MethodName := ⟨RL, "law", "([I)Z"⟩
abbrev vwCl : List vw_C := [(RX0, TX0, 5), (RX1, TX1, 4), (RX2, TX2, 7), (RX3, TX3, 4), (RX4, TX4, 3), (RX5, TX5, 4), (RX6, TX6, 6), (RX7, TX7, 12), (RX8, TX8, 10), (RX9, TX9, 36)]
theorem inX0 : ∀ w ∈ wsX00, w ∈ lw_tbl := by decide +kernel
theorem inX1 : ∀ w ∈ wsX10, w ∈ lw_tbl := by decide +kernel
theorem inX2 : ∀ w ∈ wsX20, w ∈ lw_tbl := by decide +kernel
theorem inX3 : ∀ w ∈ wsX30, w ∈ lw_tbl := by decide +kernel
theorem inX4 : ∀ w ∈ wsX40, w ∈ lw_tbl := by decide +kernel
theorem inX5 : ∀ w ∈ wsX50, w ∈ lw_tbl := by decide +kernel
theorem inX6 : ∀ w ∈ wsX60, w ∈ lw_tbl := by decide +kernel
theorem inX7 : ∀ w ∈ wsX70, w ∈ lw_tbl := by decide +kernel
theorem inX8 : ∀ w ∈ wsX80, w ∈ lw_tbl := by decide +kernel
theorem inX9 : ∀ w ∈ wsX90, w ∈ lw_tbl := by decide +kernel
end
section
theorem dJ0_length_8abf5_0 : decode cJ0_length_8abf5 0 = .ok (.aload_n 0, 1) := by decide +kernel
theorem dJ0_length_8abf5_1 : decode cJ0_length_8abf5 1 = .ok (.getfield 9, 3) := by decide +kernel
theorem dJ0_length_8abf5_4 : decode cJ0_length_8abf5 4 = .ok (.arraylength, 1) := by decide +kernel
theorem dJ0_length_8abf5_5 : decode cJ0_length_8abf5 5 = .ok (.aload_n 0, 1) := by decide +kernel
theorem dJ0_length_8abf5_6 : decode cJ0_length_8abf5 6 = .ok (.invokevirtual 335, 3) := by decide +kernel
theorem dJ0_length_8abf5_9 : decode cJ0_length_8abf5 9 = .ok (.ishr, 1) := by decide +kernel
theorem dJ0_length_8abf5_10 : decode cJ0_length_8abf5 10 = .ok (.ireturn, 1) := by decide +kernel
theorem dJ0_charAt_5068e_0 : decode cJ0_charAt_5068e 0 = .ok (.aload_n 0, 1) := by decide +kernel
theorem dJ0_charAt_5068e_1 : decode cJ0_charAt_5068e 1 = .ok (.invokevirtual 492, 3) := by decide +kernel
theorem dJ0_charAt_5068e_4 : decode cJ0_charAt_5068e 4 = .ok (.ifCond .eq 12, 3) := by decide +kernel
theorem dJ0_charAt_5068e_7 : decode cJ0_charAt_5068e 7 = .ok (.aload_n 0, 1) := by decide +kernel
theorem dJ0_charAt_5068e_8 : decode cJ0_charAt_5068e 8 = .ok (.getfield 9, 3) := by decide +kernel
theorem dJ0_charAt_5068e_11 : decode cJ0_charAt_5068e 11 = .ok (.iload_n 1, 1) := by decide +kernel
theorem dJ0_charAt_5068e_12 : decode cJ0_charAt_5068e 12 = .ok (.invokestatic 495, 3) := by decide +kernel
theorem dJ0_charAt_5068e_15 : decode cJ0_charAt_5068e 15 = .ok (.ireturn, 1) := by decide +kernel
theorem dJ0_charAt_5068e_16 : decode cJ0_charAt_5068e 16 = .ok (.aload_n 0, 1) := by decide +kernel
theorem dJ0_charAt_5068e_17 : decode cJ0_charAt_5068e 17 = .ok (.getfield 9, 3) := by decide +kernel
theorem dJ0_charAt_5068e_20 : decode cJ0_charAt_5068e 20 = .ok (.iload_n 1, 1) := by decide +kernel
theorem dJ0_charAt_5068e_21 : decode cJ0_charAt_5068e 21 = .ok (.invokestatic 498, 3) := by decide +kernel
theorem dJ0_charAt_5068e_24 : decode cJ0_charAt_5068e 24 = .ok (.ireturn, 1) := by decide +kernel
theorem dJ0_indexOf_0f7a4_0 : decode cJ0_indexOf_0f7a4 0 = .ok (.aload_n 0, 1) := by decide +kernel
theorem dJ0_indexOf_0f7a4_1 : decode cJ0_indexOf_0f7a4 1 = .ok (.iload_n 1, 1) := by decide +kernel
theorem dJ0_indexOf_0f7a4_2 : decode cJ0_indexOf_0f7a4 2 = .ok (.iconst 0, 1) := by decide +kernel
theorem dJ0_indexOf_0f7a4_3 : decode cJ0_indexOf_0f7a4 3 = .ok (.invokevirtual 633, 3) := by decide +kernel
theorem dJ0_indexOf_0f7a4_6 : decode cJ0_indexOf_0f7a4 6 = .ok (.ireturn, 1) := by decide +kernel
theorem dJ0_indexOf_7cf53_0 : decode cJ0_indexOf_7cf53 0 = .ok (.aload_n 0, 1) := by decide +kernel
theorem dJ0_indexOf_7cf53_1 : decode cJ0_indexOf_7cf53 1 = .ok (.invokevirtual 492, 3) := by decide +kernel
theorem dJ0_indexOf_7cf53_4 : decode cJ0_indexOf_7cf53 4 = .ok (.ifCond .eq 19, 3) := by decide +kernel
theorem dJ0_indexOf_7cf53_7 : decode cJ0_indexOf_7cf53 7 = .ok (.aload_n 0, 1) := by decide +kernel
theorem dJ0_indexOf_7cf53_8 : decode cJ0_indexOf_7cf53 8 = .ok (.getfield 9, 3) := by decide +kernel
theorem dJ0_indexOf_7cf53_11 : decode cJ0_indexOf_7cf53 11 = .ok (.iload_n 1, 1) := by decide +kernel
theorem dJ0_indexOf_7cf53_12 : decode cJ0_indexOf_7cf53 12 = .ok (.iload_n 2, 1) := by decide +kernel
theorem dJ0_indexOf_7cf53_13 : decode cJ0_indexOf_7cf53 13 = .ok (.aload_n 0, 1) := by decide +kernel
theorem dJ0_indexOf_7cf53_14 : decode cJ0_indexOf_7cf53 14 = .ok (.invokevirtual 505, 3) := by decide +kernel
theorem dJ0_indexOf_7cf53_17 : decode cJ0_indexOf_7cf53 17 = .ok (.invokestatic 637, 3) := by decide +kernel
theorem dJ0_indexOf_7cf53_20 : decode cJ0_indexOf_7cf53 20 = .ok (.goto 16, 3) := by decide +kernel
theorem dJ0_indexOf_7cf53_23 : decode cJ0_indexOf_7cf53 23 = .ok (.aload_n 0, 1) := by decide +kernel
theorem dJ0_indexOf_7cf53_24 : decode cJ0_indexOf_7cf53 24 = .ok (.getfield 9, 3) := by decide +kernel
theorem dJ0_indexOf_7cf53_27 : decode cJ0_indexOf_7cf53 27 = .ok (.iload_n 1, 1) := by decide +kernel
theorem dJ0_indexOf_7cf53_28 : decode cJ0_indexOf_7cf53 28 = .ok (.iload_n 2, 1) := by decide +kernel
theorem dJ0_indexOf_7cf53_29 : decode cJ0_indexOf_7cf53 29 = .ok (.aload_n 0, 1) := by decide +kernel
theorem dJ0_indexOf_7cf53_30 : decode cJ0_indexOf_7cf53 30 = .ok (.invokevirtual 505, 3) := by decide +kernel
theorem dJ0_indexOf_7cf53_33 : decode cJ0_indexOf_7cf53 33 = .ok (.invokestatic 640, 3) := by decide +kernel
theorem dJ0_indexOf_7cf53_36 : decode cJ0_indexOf_7cf53 36 = .ok (.ireturn, 1) := by decide +kernel
theorem dJ0_coder_7d493_0 : decode cJ0_coder_7d493 0 = .ok (.getstatic 38, 3) := by decide +kernel
theorem dJ0_coder_7d493_3 : decode cJ0_coder_7d493 3 = .ok (.ifCond .eq 10, 3) := by decide +kernel
theorem dJ0_coder_7d493_6 : decode cJ0_coder_7d493 6 = .ok (.aload_n 0, 1) := by decide +kernel
theorem dJ0_coder_7d493_7 : decode cJ0_coder_7d493 7 = .ok (.getfield 15, 3) := by decide +kernel
theorem dJ0_coder_7d493_10 : decode cJ0_coder_7d493 10 = .ok (.goto 4, 3) := by decide +kernel
theorem dJ0_coder_7d493_13 : decode cJ0_coder_7d493 13 = .ok (.iconst 1, 1) := by decide +kernel
theorem dJ0_coder_7d493_14 : decode cJ0_coder_7d493 14 = .ok (.ireturn, 1) := by decide +kernel
theorem dJ0_isLatin1_aae02_0 : decode cJ0_isLatin1_aae02 0 = .ok (.getstatic 38, 3) := by decide +kernel
theorem dJ0_isLatin1_aae02_3 : decode cJ0_isLatin1_aae02 3 = .ok (.ifCond .eq 14, 3) := by decide +kernel
theorem dJ0_isLatin1_aae02_6 : decode cJ0_isLatin1_aae02 6 = .ok (.aload_n 0, 1) := by decide +kernel
theorem dJ0_isLatin1_aae02_7 : decode cJ0_isLatin1_aae02 7 = .ok (.getfield 15, 3) := by decide +kernel
theorem dJ0_isLatin1_aae02_10 : decode cJ0_isLatin1_aae02 10 = .ok (.ifCond .ne 7, 3) := by decide +kernel
theorem dJ0_isLatin1_aae02_13 : decode cJ0_isLatin1_aae02 13 = .ok (.iconst 1, 1) := by decide +kernel
theorem dJ0_isLatin1_aae02_14 : decode cJ0_isLatin1_aae02 14 = .ok (.goto 4, 3) := by decide +kernel
theorem dJ0_isLatin1_aae02_17 : decode cJ0_isLatin1_aae02 17 = .ok (.iconst 0, 1) := by decide +kernel
theorem dJ0_isLatin1_aae02_18 : decode cJ0_isLatin1_aae02 18 = .ok (.ireturn, 1) := by decide +kernel
theorem dJ0_checkIndex_df160_0 : decode cJ0_checkIndex_df160 0 = .ok (.iload_n 0, 1) := by decide +kernel
theorem dJ0_checkIndex_df160_1 : decode cJ0_checkIndex_df160 1 = .ok (.iload_n 1, 1) := by decide +kernel
theorem dJ0_checkIndex_df160_2 : decode cJ0_checkIndex_df160 2 = .ok (.getstatic 1053, 3) := by decide +kernel
theorem dJ0_checkIndex_df160_5 : decode cJ0_checkIndex_df160 5 = .ok (.invokestatic 1059, 3) := by decide +kernel
theorem dJ0_checkIndex_df160_8 : decode cJ0_checkIndex_df160 8 = .ok (.pop, 1) := by decide +kernel
theorem dJ0_checkIndex_df160_9 : decode cJ0_checkIndex_df160 9 = .ok (.return_, 1) := by decide +kernel
theorem dJ0_checkBoundsBeginEnd_23922_0 : decode cJ0_checkBoundsBeginEnd_23922 0 = .ok (.iload_n 0, 1) := by decide +kernel
theorem dJ0_checkBoundsBeginEnd_23922_1 : decode cJ0_checkBoundsBeginEnd_23922 1 = .ok (.iload_n 1, 1) := by decide +kernel
theorem dJ0_checkBoundsBeginEnd_23922_2 : decode cJ0_checkBoundsBeginEnd_23922 2 = .ok (.iload_n 2, 1) := by decide +kernel
theorem dJ0_checkBoundsBeginEnd_23922_3 : decode cJ0_checkBoundsBeginEnd_23922 3 = .ok (.getstatic 1053, 3) := by decide +kernel
theorem dJ0_checkBoundsBeginEnd_23922_6 : decode cJ0_checkBoundsBeginEnd_23922 6 = .ok (.invokestatic 1062, 3) := by decide +kernel
theorem dJ0_checkBoundsBeginEnd_23922_9 : decode cJ0_checkBoundsBeginEnd_23922 9 = .ok (.pop, 1) := by decide +kernel
theorem dJ0_checkBoundsBeginEnd_23922_10 : decode cJ0_checkBoundsBeginEnd_23922 10 = .ok (.return_, 1) := by decide +kernel
theorem dJ1_charAt_3b067_0 : decode cJ1_charAt_3b067 0 = .ok (.iload_n 1, 1) := by decide +kernel
theorem dJ1_charAt_3b067_1 : decode cJ1_charAt_3b067 1 = .ok (.aload_n 0, 1) := by decide +kernel
theorem dJ1_charAt_3b067_2 : decode cJ1_charAt_3b067 2 = .ok (.arraylength, 1) := by decide +kernel
theorem dJ1_charAt_3b067_3 : decode cJ1_charAt_3b067 3 = .ok (.invokestatic 9, 3) := by decide +kernel
theorem dJ1_charAt_3b067_6 : decode cJ1_charAt_3b067 6 = .ok (.aload_n 0, 1) := by decide +kernel
theorem dJ1_charAt_3b067_7 : decode cJ1_charAt_3b067 7 = .ok (.iload_n 1, 1) := by decide +kernel
theorem dJ1_charAt_3b067_8 : decode cJ1_charAt_3b067 8 = .ok (.baload, 1) := by decide +kernel
theorem dJ1_charAt_3b067_9 : decode cJ1_charAt_3b067 9 = .ok (.sipush 255, 3) := by decide +kernel
theorem dJ1_charAt_3b067_12 : decode cJ1_charAt_3b067 12 = .ok (.iand, 1) := by decide +kernel
theorem dJ1_charAt_3b067_13 : decode cJ1_charAt_3b067 13 = .ok (.i2c, 1) := by decide +kernel
theorem dJ1_charAt_3b067_14 : decode cJ1_charAt_3b067 14 = .ok (.ireturn, 1) := by decide +kernel
theorem dJ1_canEncode_9a6ad_0 : decode cJ1_canEncode_9a6ad 0 = .ok (.iload_n 0, 1) := by decide +kernel
theorem dJ1_canEncode_9a6ad_1 : decode cJ1_canEncode_9a6ad 1 = .ok (.ifCond .lt 14, 3) := by decide +kernel
theorem dJ1_canEncode_9a6ad_4 : decode cJ1_canEncode_9a6ad 4 = .ok (.iload_n 0, 1) := by decide +kernel
theorem dJ1_canEncode_9a6ad_5 : decode cJ1_canEncode_9a6ad 5 = .ok (.sipush 255, 3) := by decide +kernel
theorem dJ1_canEncode_9a6ad_8 : decode cJ1_canEncode_9a6ad 8 = .ok (.if_icmp .gt 7, 3) := by decide +kernel
theorem dJ1_canEncode_9a6ad_11 : decode cJ1_canEncode_9a6ad 11 = .ok (.iconst 1, 1) := by decide +kernel
theorem dJ1_canEncode_9a6ad_12 : decode cJ1_canEncode_9a6ad 12 = .ok (.goto 4, 3) := by decide +kernel
theorem dJ1_canEncode_9a6ad_15 : decode cJ1_canEncode_9a6ad 15 = .ok (.iconst 0, 1) := by decide +kernel
theorem dJ1_canEncode_9a6ad_16 : decode cJ1_canEncode_9a6ad 16 = .ok (.ireturn, 1) := by decide +kernel
theorem dJ1_indexOf_4cfef_0 : decode cJ1_indexOf_4cfef 0 = .ok (.iload_n 1, 1) := by decide +kernel
theorem dJ1_indexOf_4cfef_1 : decode cJ1_indexOf_4cfef 1 = .ok (.invokestatic 88, 3) := by decide +kernel
theorem dJ1_indexOf_4cfef_4 : decode cJ1_indexOf_4cfef 4 = .ok (.ifCond .ne 5, 3) := by decide +kernel
theorem dJ1_indexOf_4cfef_7 : decode cJ1_indexOf_4cfef 7 = .ok (.iconst (-1), 1) := by decide +kernel
theorem dJ1_indexOf_4cfef_8 : decode cJ1_indexOf_4cfef 8 = .ok (.ireturn, 1) := by decide +kernel
theorem dJ1_indexOf_4cfef_9 : decode cJ1_indexOf_4cfef 9 = .ok (.iload_n 2, 1) := by decide +kernel
theorem dJ1_indexOf_4cfef_10 : decode cJ1_indexOf_4cfef 10 = .ok (.iconst 0, 1) := by decide +kernel
theorem dJ1_indexOf_4cfef_11 : decode cJ1_indexOf_4cfef 11 = .ok (.invokestatic 92, 3) := by decide +kernel
theorem dJ1_indexOf_4cfef_14 : decode cJ1_indexOf_4cfef 14 = .ok (.istore_n 2, 1) := by decide +kernel
theorem dJ1_indexOf_4cfef_15 : decode cJ1_indexOf_4cfef 15 = .ok (.iload_n 3, 1) := by decide +kernel
theorem dJ1_indexOf_4cfef_16 : decode cJ1_indexOf_4cfef 16 = .ok (.aload_n 0, 1) := by decide +kernel
theorem dJ1_indexOf_4cfef_17 : decode cJ1_indexOf_4cfef 17 = .ok (.arraylength, 1) := by decide +kernel
theorem dJ1_indexOf_4cfef_18 : decode cJ1_indexOf_4cfef 18 = .ok (.invokestatic 38, 3) := by decide +kernel
theorem dJ1_indexOf_4cfef_21 : decode cJ1_indexOf_4cfef 21 = .ok (.istore_n 3, 1) := by decide +kernel
theorem dJ1_indexOf_4cfef_22 : decode cJ1_indexOf_4cfef 22 = .ok (.iload_n 2, 1) := by decide +kernel
theorem dJ1_indexOf_4cfef_23 : decode cJ1_indexOf_4cfef 23 = .ok (.iload_n 3, 1) := by decide +kernel
theorem dJ1_indexOf_4cfef_24 : decode cJ1_indexOf_4cfef 24 = .ok (.if_icmp .lt 5, 3) := by decide +kernel
theorem dJ1_indexOf_4cfef_27 : decode cJ1_indexOf_4cfef 27 = .ok (.iconst (-1), 1) := by decide +kernel
theorem dJ1_indexOf_4cfef_28 : decode cJ1_indexOf_4cfef 28 = .ok (.ireturn, 1) := by decide +kernel
theorem dJ1_indexOf_4cfef_29 : decode cJ1_indexOf_4cfef 29 = .ok (.aload_n 0, 1) := by decide +kernel
theorem dJ1_indexOf_4cfef_30 : decode cJ1_indexOf_4cfef 30 = .ok (.iload_n 1, 1) := by decide +kernel
theorem dJ1_indexOf_4cfef_31 : decode cJ1_indexOf_4cfef 31 = .ok (.iload_n 2, 1) := by decide +kernel
theorem dJ1_indexOf_4cfef_32 : decode cJ1_indexOf_4cfef 32 = .ok (.iload_n 3, 1) := by decide +kernel
theorem dJ1_indexOf_4cfef_33 : decode cJ1_indexOf_4cfef 33 = .ok (.invokestatic 95, 3) := by decide +kernel
theorem dJ1_indexOf_4cfef_36 : decode cJ1_indexOf_4cfef 36 = .ok (.ireturn, 1) := by decide +kernel
theorem dJ1_indexOfChar_4cfef_0 : decode cJ1_indexOfChar_4cfef 0 = .ok (.iload_n 1, 1) := by decide +kernel
theorem dJ1_indexOfChar_4cfef_1 : decode cJ1_indexOfChar_4cfef 1 = .ok (.i2b, 1) := by decide +kernel
theorem dJ1_indexOfChar_4cfef_2 : decode cJ1_indexOfChar_4cfef 2 = .ok (.istore 4, 2) := by decide +kernel
theorem dJ1_indexOfChar_4cfef_4 : decode cJ1_indexOfChar_4cfef 4 = .ok (.iload_n 2, 1) := by decide +kernel
theorem dJ1_indexOfChar_4cfef_5 : decode cJ1_indexOfChar_4cfef 5 = .ok (.istore 5, 2) := by decide +kernel
theorem dJ1_indexOfChar_4cfef_7 : decode cJ1_indexOfChar_4cfef 7 = .ok (.iload 5, 2) := by decide +kernel
theorem dJ1_indexOfChar_4cfef_9 : decode cJ1_indexOfChar_4cfef 9 = .ok (.iload_n 3, 1) := by decide +kernel
theorem dJ1_indexOfChar_4cfef_10 : decode cJ1_indexOfChar_4cfef 10 = .ok (.if_icmp .ge 21, 3) := by decide +kernel
theorem dJ1_indexOfChar_4cfef_13 : decode cJ1_indexOfChar_4cfef 13 = .ok (.aload_n 0, 1) := by decide +kernel
theorem dJ1_indexOfChar_4cfef_14 : decode cJ1_indexOfChar_4cfef 14 = .ok (.iload 5, 2) := by decide +kernel
theorem dJ1_indexOfChar_4cfef_16 : decode cJ1_indexOfChar_4cfef 16 = .ok (.baload, 1) := by decide +kernel
theorem dJ1_indexOfChar_4cfef_17 : decode cJ1_indexOfChar_4cfef 17 = .ok (.iload 4, 2) := by decide +kernel
theorem dJ1_indexOfChar_4cfef_19 : decode cJ1_indexOfChar_4cfef 19 = .ok (.if_icmp .ne 6, 3) := by decide +kernel
theorem dJ1_indexOfChar_4cfef_22 : decode cJ1_indexOfChar_4cfef 22 = .ok (.iload 5, 2) := by decide +kernel
theorem dJ1_indexOfChar_4cfef_24 : decode cJ1_indexOfChar_4cfef 24 = .ok (.ireturn, 1) := by decide +kernel
theorem dJ1_indexOfChar_4cfef_25 : decode cJ1_indexOfChar_4cfef 25 = .ok (.iinc 5 1, 3) := by decide +kernel
theorem dJ1_indexOfChar_4cfef_28 : decode cJ1_indexOfChar_4cfef 28 = .ok (.goto (-21), 3) := by decide +kernel
theorem dJ1_indexOfChar_4cfef_31 : decode cJ1_indexOfChar_4cfef 31 = .ok (.iconst (-1), 1) := by decide +kernel
theorem dJ1_indexOfChar_4cfef_32 : decode cJ1_indexOfChar_4cfef 32 = .ok (.ireturn, 1) := by decide +kernel
theorem dJ2_getChar_3b067_0 : decode cJ2_getChar_3b067 0 = .ok (.getstatic 44, 3) := by decide +kernel
theorem dJ2_getChar_3b067_3 : decode cJ2_getChar_3b067 3 = .ok (.ifCond .ne 25, 3) := by decide +kernel
theorem dJ2_getChar_3b067_6 : decode cJ2_getChar_3b067 6 = .ok (.iload_n 1, 1) := by decide +kernel
theorem dJ2_getChar_3b067_7 : decode cJ2_getChar_3b067 7 = .ok (.ifCond .lt 11, 3) := by decide +kernel
theorem dJ2_getChar_3b067_10 : decode cJ2_getChar_3b067 10 = .ok (.iload_n 1, 1) := by decide +kernel
theorem dJ2_getChar_3b067_11 : decode cJ2_getChar_3b067 11 = .ok (.aload_n 0, 1) := by decide +kernel
theorem dJ2_getChar_3b067_12 : decode cJ2_getChar_3b067 12 = .ok (.invokestatic 48, 3) := by decide +kernel
theorem dJ2_getChar_3b067_15 : decode cJ2_getChar_3b067 15 = .ok (.if_icmp .lt 13, 3) := by decide +kernel
theorem dJ2_getChar_3b067_18 : decode cJ2_getChar_3b067 18 = .ok (.new 52, 3) := by decide +kernel
theorem dJ2_getChar_3b067_21 : decode cJ2_getChar_3b067 21 = .ok (.dup, 1) := by decide +kernel
theorem dJ2_getChar_3b067_22 : decode cJ2_getChar_3b067 22 = .ok (.ldc 54, 2) := by decide +kernel
theorem dJ2_getChar_3b067_24 : decode cJ2_getChar_3b067 24 = .ok (.invokespecial 56, 3) := by decide +kernel
theorem dJ2_getChar_3b067_27 : decode cJ2_getChar_3b067 27 = .ok (.athrow, 1) := by decide +kernel
theorem dJ2_getChar_3b067_28 : decode cJ2_getChar_3b067 28 = .ok (.iload_n 1, 1) := by decide +kernel
theorem dJ2_getChar_3b067_29 : decode cJ2_getChar_3b067 29 = .ok (.iconst 1, 1) := by decide +kernel
theorem dJ2_getChar_3b067_30 : decode cJ2_getChar_3b067 30 = .ok (.ishl, 1) := by decide +kernel
theorem dJ2_getChar_3b067_31 : decode cJ2_getChar_3b067 31 = .ok (.istore_n 1, 1) := by decide +kernel
theorem dJ2_getChar_3b067_32 : decode cJ2_getChar_3b067 32 = .ok (.aload_n 0, 1) := by decide +kernel
theorem dJ2_getChar_3b067_33 : decode cJ2_getChar_3b067 33 = .ok (.iload_n 1, 1) := by decide +kernel
theorem dJ2_getChar_3b067_34 : decode cJ2_getChar_3b067 34 = .ok (.iinc 1 1, 3) := by decide +kernel
theorem dJ2_getChar_3b067_37 : decode cJ2_getChar_3b067 37 = .ok (.baload, 1) := by decide +kernel
theorem dJ2_getChar_3b067_38 : decode cJ2_getChar_3b067 38 = .ok (.sipush 255, 3) := by decide +kernel
theorem dJ2_getChar_3b067_41 : decode cJ2_getChar_3b067 41 = .ok (.iand, 1) := by decide +kernel
theorem dJ2_getChar_3b067_42 : decode cJ2_getChar_3b067 42 = .ok (.getstatic 59, 3) := by decide +kernel
theorem dJ2_getChar_3b067_45 : decode cJ2_getChar_3b067 45 = .ok (.ishl, 1) := by decide +kernel
theorem dJ2_getChar_3b067_46 : decode cJ2_getChar_3b067 46 = .ok (.aload_n 0, 1) := by decide +kernel
theorem dJ2_getChar_3b067_47 : decode cJ2_getChar_3b067 47 = .ok (.iload_n 1, 1) := by decide +kernel
theorem dJ2_getChar_3b067_48 : decode cJ2_getChar_3b067 48 = .ok (.baload, 1) := by decide +kernel
theorem dJ2_getChar_3b067_49 : decode cJ2_getChar_3b067 49 = .ok (.sipush 255, 3) := by decide +kernel
theorem dJ2_getChar_3b067_52 : decode cJ2_getChar_3b067 52 = .ok (.iand, 1) := by decide +kernel
theorem dJ2_getChar_3b067_53 : decode cJ2_getChar_3b067 53 = .ok (.getstatic 63, 3) := by decide +kernel
theorem dJ2_getChar_3b067_56 : decode cJ2_getChar_3b067 56 = .ok (.ishl, 1) := by decide +kernel
theorem dJ2_getChar_3b067_57 : decode cJ2_getChar_3b067 57 = .ok (.ior, 1) := by decide +kernel
theorem dJ2_getChar_3b067_58 : decode cJ2_getChar_3b067 58 = .ok (.i2c, 1) := by decide +kernel
theorem dJ2_getChar_3b067_59 : decode cJ2_getChar_3b067 59 = .ok (.ireturn, 1) := by decide +kernel
theorem dJ2_length_9d52b_0 : decode cJ2_length_9d52b 0 = .ok (.aload_n 0, 1) := by decide +kernel
theorem dJ2_length_9d52b_1 : decode cJ2_length_9d52b 1 = .ok (.arraylength, 1) := by decide +kernel
theorem dJ2_length_9d52b_2 : decode cJ2_length_9d52b 2 = .ok (.iconst 1, 1) := by decide +kernel
theorem dJ2_length_9d52b_3 : decode cJ2_length_9d52b 3 = .ok (.ishr, 1) := by decide +kernel
theorem dJ2_length_9d52b_4 : decode cJ2_length_9d52b 4 = .ok (.ireturn, 1) := by decide +kernel
theorem dJ2_indexOf_4cfef_0 : decode cJ2_indexOf_4cfef 0 = .ok (.iload_n 2, 1) := by decide +kernel
theorem dJ2_indexOf_4cfef_1 : decode cJ2_indexOf_4cfef 1 = .ok (.iconst 0, 1) := by decide +kernel
theorem dJ2_indexOf_4cfef_2 : decode cJ2_indexOf_4cfef 2 = .ok (.invokestatic 224, 3) := by decide +kernel
theorem dJ2_indexOf_4cfef_5 : decode cJ2_indexOf_4cfef 5 = .ok (.istore_n 2, 1) := by decide +kernel
theorem dJ2_indexOf_4cfef_6 : decode cJ2_indexOf_4cfef 6 = .ok (.iload_n 3, 1) := by decide +kernel
theorem dJ2_indexOf_4cfef_7 : decode cJ2_indexOf_4cfef 7 = .ok (.aload_n 0, 1) := by decide +kernel
theorem dJ2_indexOf_4cfef_8 : decode cJ2_indexOf_4cfef 8 = .ok (.arraylength, 1) := by decide +kernel
theorem dJ2_indexOf_4cfef_9 : decode cJ2_indexOf_4cfef 9 = .ok (.iconst 1, 1) := by decide +kernel
theorem dJ2_indexOf_4cfef_10 : decode cJ2_indexOf_4cfef 10 = .ok (.ishr, 1) := by decide +kernel
theorem dJ2_indexOf_4cfef_11 : decode cJ2_indexOf_4cfef 11 = .ok (.invokestatic 183, 3) := by decide +kernel
theorem dJ2_indexOf_4cfef_14 : decode cJ2_indexOf_4cfef 14 = .ok (.istore_n 3, 1) := by decide +kernel
theorem dJ2_indexOf_4cfef_15 : decode cJ2_indexOf_4cfef 15 = .ok (.iload_n 2, 1) := by decide +kernel
theorem dJ2_indexOf_4cfef_16 : decode cJ2_indexOf_4cfef 16 = .ok (.iload_n 3, 1) := by decide +kernel
theorem dJ2_indexOf_4cfef_17 : decode cJ2_indexOf_4cfef 17 = .ok (.if_icmp .lt 5, 3) := by decide +kernel
theorem dJ2_indexOf_4cfef_20 : decode cJ2_indexOf_4cfef 20 = .ok (.iconst (-1), 1) := by decide +kernel
theorem dJ2_indexOf_4cfef_21 : decode cJ2_indexOf_4cfef 21 = .ok (.ireturn, 1) := by decide +kernel
theorem dJ2_indexOf_4cfef_22 : decode cJ2_indexOf_4cfef 22 = .ok (.iload_n 1, 1) := by decide +kernel
theorem dJ2_indexOf_4cfef_23 : decode cJ2_indexOf_4cfef 23 = .ok (.ldc 227, 2) := by decide +kernel
theorem dJ2_indexOf_4cfef_25 : decode cJ2_indexOf_4cfef 25 = .ok (.if_icmp .ge 11, 3) := by decide +kernel
theorem dJ2_indexOf_4cfef_28 : decode cJ2_indexOf_4cfef 28 = .ok (.aload_n 0, 1) := by decide +kernel
theorem dJ2_indexOf_4cfef_29 : decode cJ2_indexOf_4cfef 29 = .ok (.iload_n 1, 1) := by decide +kernel
theorem dJ2_indexOf_4cfef_30 : decode cJ2_indexOf_4cfef 30 = .ok (.iload_n 2, 1) := by decide +kernel
theorem dJ2_indexOf_4cfef_31 : decode cJ2_indexOf_4cfef 31 = .ok (.iload_n 3, 1) := by decide +kernel
theorem dJ2_indexOf_4cfef_32 : decode cJ2_indexOf_4cfef 32 = .ok (.invokestatic 228, 3) := by decide +kernel
theorem dJ2_indexOf_4cfef_35 : decode cJ2_indexOf_4cfef 35 = .ok (.ireturn, 1) := by decide +kernel
theorem dJ2_indexOf_4cfef_36 : decode cJ2_indexOf_4cfef 36 = .ok (.aload_n 0, 1) := by decide +kernel
theorem dJ2_indexOf_4cfef_37 : decode cJ2_indexOf_4cfef 37 = .ok (.iload_n 1, 1) := by decide +kernel
theorem dJ2_indexOf_4cfef_38 : decode cJ2_indexOf_4cfef 38 = .ok (.iload_n 2, 1) := by decide +kernel
theorem dJ2_indexOf_4cfef_39 : decode cJ2_indexOf_4cfef 39 = .ok (.iload_n 3, 1) := by decide +kernel
theorem dJ2_indexOf_4cfef_40 : decode cJ2_indexOf_4cfef 40 = .ok (.invokestatic 232, 3) := by decide +kernel
theorem dJ2_indexOf_4cfef_43 : decode cJ2_indexOf_4cfef 43 = .ok (.ireturn, 1) := by decide +kernel
theorem dJ2_indexOfChar_4cfef_0 : decode cJ2_indexOfChar_4cfef 0 = .ok (.iload_n 2, 1) := by decide +kernel
theorem dJ2_indexOfChar_4cfef_1 : decode cJ2_indexOfChar_4cfef 1 = .ok (.iload_n 3, 1) := by decide +kernel
theorem dJ2_indexOfChar_4cfef_2 : decode cJ2_indexOfChar_4cfef 2 = .ok (.aload_n 0, 1) := by decide +kernel
theorem dJ2_indexOfChar_4cfef_3 : decode cJ2_indexOfChar_4cfef 3 = .ok (.invokestatic 96, 3) := by decide +kernel
theorem dJ2_indexOfChar_4cfef_6 : decode cJ2_indexOfChar_4cfef 6 = .ok (.aload_n 0, 1) := by decide +kernel
theorem dJ2_indexOfChar_4cfef_7 : decode cJ2_indexOfChar_4cfef 7 = .ok (.iload_n 1, 1) := by decide +kernel
theorem dJ2_indexOfChar_4cfef_8 : decode cJ2_indexOfChar_4cfef 8 = .ok (.iload_n 2, 1) := by decide +kernel
theorem dJ2_indexOfChar_4cfef_9 : decode cJ2_indexOfChar_4cfef 9 = .ok (.iload_n 3, 1) := by decide +kernel
theorem dJ2_indexOfChar_4cfef_10 : decode cJ2_indexOfChar_4cfef 10 = .ok (.invokestatic 244, 3) := by decide +kernel
theorem dJ2_indexOfChar_4cfef_13 : decode cJ2_indexOfChar_4cfef 13 = .ok (.ireturn, 1) := by decide +kernel
theorem dJ2_indexOfCharUnsafe_4cfef_0 : decode cJ2_indexOfCharUnsafe_4cfef 0 = .ok (.iload_n 2, 1) := by decide +kernel
theorem dJ2_indexOfCharUnsafe_4cfef_1 : decode cJ2_indexOfCharUnsafe_4cfef 1 = .ok (.istore 4, 2) := by decide +kernel
theorem dJ2_indexOfCharUnsafe_4cfef_3 : decode cJ2_indexOfCharUnsafe_4cfef 3 = .ok (.iload 4, 2) := by decide +kernel
theorem dJ2_indexOfCharUnsafe_4cfef_5 : decode cJ2_indexOfCharUnsafe_4cfef 5 = .ok (.iload_n 3, 1) := by decide +kernel
theorem dJ2_indexOfCharUnsafe_4cfef_6 : decode cJ2_indexOfCharUnsafe_4cfef 6 = .ok (.if_icmp .ge 22, 3) := by decide +kernel
theorem dJ2_indexOfCharUnsafe_4cfef_9 : decode cJ2_indexOfCharUnsafe_4cfef 9 = .ok (.aload_n 0, 1) := by decide +kernel
theorem dJ2_indexOfCharUnsafe_4cfef_10 : decode cJ2_indexOfCharUnsafe_4cfef 10 = .ok (.iload 4, 2) := by decide +kernel
theorem dJ2_indexOfCharUnsafe_4cfef_12 : decode cJ2_indexOfCharUnsafe_4cfef 12 = .ok (.invokestatic 71, 3) := by decide +kernel
theorem dJ2_indexOfCharUnsafe_4cfef_15 : decode cJ2_indexOfCharUnsafe_4cfef 15 = .ok (.iload_n 1, 1) := by decide +kernel
theorem dJ2_indexOfCharUnsafe_4cfef_16 : decode cJ2_indexOfCharUnsafe_4cfef 16 = .ok (.if_icmp .ne 6, 3) := by decide +kernel
theorem dJ2_indexOfCharUnsafe_4cfef_19 : decode cJ2_indexOfCharUnsafe_4cfef 19 = .ok (.iload 4, 2) := by decide +kernel
theorem dJ2_indexOfCharUnsafe_4cfef_21 : decode cJ2_indexOfCharUnsafe_4cfef 21 = .ok (.ireturn, 1) := by decide +kernel
theorem dJ2_indexOfCharUnsafe_4cfef_22 : decode cJ2_indexOfCharUnsafe_4cfef 22 = .ok (.iinc 4 1, 3) := by decide +kernel
theorem dJ2_indexOfCharUnsafe_4cfef_25 : decode cJ2_indexOfCharUnsafe_4cfef 25 = .ok (.goto (-22), 3) := by decide +kernel
theorem dJ2_indexOfCharUnsafe_4cfef_28 : decode cJ2_indexOfCharUnsafe_4cfef 28 = .ok (.iconst (-1), 1) := by decide +kernel
theorem dJ2_indexOfCharUnsafe_4cfef_29 : decode cJ2_indexOfCharUnsafe_4cfef 29 = .ok (.ireturn, 1) := by decide +kernel
theorem dJ2_indexOfSupplementary_4cfef_0 : decode cJ2_indexOfSupplementary_4cfef 0 = .ok (.iload_n 1, 1) := by decide +kernel
theorem dJ2_indexOfSupplementary_4cfef_1 : decode cJ2_indexOfSupplementary_4cfef 1 = .ok (.invokestatic 164, 3) := by decide +kernel
theorem dJ2_indexOfSupplementary_4cfef_4 : decode cJ2_indexOfSupplementary_4cfef 4 = .ok (.ifCond .eq 65, 3) := by decide +kernel
theorem dJ2_indexOfSupplementary_4cfef_7 : decode cJ2_indexOfSupplementary_4cfef 7 = .ok (.iload_n 1, 1) := by decide +kernel
theorem dJ2_indexOfSupplementary_4cfef_8 : decode cJ2_indexOfSupplementary_4cfef 8 = .ok (.invokestatic 157, 3) := by decide +kernel
theorem dJ2_indexOfSupplementary_4cfef_11 : decode cJ2_indexOfSupplementary_4cfef 11 = .ok (.istore 4, 2) := by decide +kernel
theorem dJ2_indexOfSupplementary_4cfef_13 : decode cJ2_indexOfSupplementary_4cfef 13 = .ok (.iload_n 1, 1) := by decide +kernel
theorem dJ2_indexOfSupplementary_4cfef_14 : decode cJ2_indexOfSupplementary_4cfef 14 = .ok (.invokestatic 161, 3) := by decide +kernel
theorem dJ2_indexOfSupplementary_4cfef_17 : decode cJ2_indexOfSupplementary_4cfef 17 = .ok (.istore 5, 2) := by decide +kernel
theorem dJ2_indexOfSupplementary_4cfef_19 : decode cJ2_indexOfSupplementary_4cfef 19 = .ok (.iload_n 2, 1) := by decide +kernel
theorem dJ2_indexOfSupplementary_4cfef_20 : decode cJ2_indexOfSupplementary_4cfef 20 = .ok (.iload_n 3, 1) := by decide +kernel
theorem dJ2_indexOfSupplementary_4cfef_21 : decode cJ2_indexOfSupplementary_4cfef 21 = .ok (.aload_n 0, 1) := by decide +kernel
theorem dJ2_indexOfSupplementary_4cfef_22 : decode cJ2_indexOfSupplementary_4cfef 22 = .ok (.invokestatic 96, 3) := by decide +kernel
theorem dJ2_indexOfSupplementary_4cfef_25 : decode cJ2_indexOfSupplementary_4cfef 25 = .ok (.iload_n 2, 1) := by decide +kernel
theorem dJ2_indexOfSupplementary_4cfef_26 : decode cJ2_indexOfSupplementary_4cfef 26 = .ok (.istore 6, 2) := by decide +kernel
theorem dJ2_indexOfSupplementary_4cfef_28 : decode cJ2_indexOfSupplementary_4cfef 28 = .ok (.iload 6, 2) := by decide +kernel
theorem dJ2_indexOfSupplementary_4cfef_30 : decode cJ2_indexOfSupplementary_4cfef 30 = .ok (.iload_n 3, 1) := by decide +kernel
theorem dJ2_indexOfSupplementary_4cfef_31 : decode cJ2_indexOfSupplementary_4cfef 31 = .ok (.iconst 1, 1) := by decide +kernel
theorem dJ2_indexOfSupplementary_4cfef_32 : decode cJ2_indexOfSupplementary_4cfef 32 = .ok (.isub, 1) := by decide +kernel
theorem dJ2_indexOfSupplementary_4cfef_33 : decode cJ2_indexOfSupplementary_4cfef 33 = .ok (.if_icmp .ge 36, 3) := by decide +kernel
theorem dJ2_indexOfSupplementary_4cfef_36 : decode cJ2_indexOfSupplementary_4cfef 36 = .ok (.aload_n 0, 1) := by decide +kernel
theorem dJ2_indexOfSupplementary_4cfef_37 : decode cJ2_indexOfSupplementary_4cfef 37 = .ok (.iload 6, 2) := by decide +kernel
theorem dJ2_indexOfSupplementary_4cfef_39 : decode cJ2_indexOfSupplementary_4cfef 39 = .ok (.invokestatic 71, 3) := by decide +kernel
theorem dJ2_indexOfSupplementary_4cfef_42 : decode cJ2_indexOfSupplementary_4cfef 42 = .ok (.iload 4, 2) := by decide +kernel
theorem dJ2_indexOfSupplementary_4cfef_44 : decode cJ2_indexOfSupplementary_4cfef 44 = .ok (.if_icmp .ne 19, 3) := by decide +kernel
theorem dJ2_indexOfSupplementary_4cfef_47 : decode cJ2_indexOfSupplementary_4cfef 47 = .ok (.aload_n 0, 1) := by decide +kernel
theorem dJ2_indexOfSupplementary_4cfef_48 : decode cJ2_indexOfSupplementary_4cfef 48 = .ok (.iload 6, 2) := by decide +kernel
theorem dJ2_indexOfSupplementary_4cfef_50 : decode cJ2_indexOfSupplementary_4cfef 50 = .ok (.iconst 1, 1) := by decide +kernel
theorem dJ2_indexOfSupplementary_4cfef_51 : decode cJ2_indexOfSupplementary_4cfef 51 = .ok (.iadd, 1) := by decide +kernel
theorem dJ2_indexOfSupplementary_4cfef_52 : decode cJ2_indexOfSupplementary_4cfef 52 = .ok (.invokestatic 71, 3) := by decide +kernel
theorem dJ2_indexOfSupplementary_4cfef_55 : decode cJ2_indexOfSupplementary_4cfef 55 = .ok (.iload 5, 2) := by decide +kernel
theorem dJ2_indexOfSupplementary_4cfef_57 : decode cJ2_indexOfSupplementary_4cfef 57 = .ok (.if_icmp .ne 6, 3) := by decide +kernel
theorem dJ2_indexOfSupplementary_4cfef_60 : decode cJ2_indexOfSupplementary_4cfef 60 = .ok (.iload 6, 2) := by decide +kernel
theorem dJ2_indexOfSupplementary_4cfef_62 : decode cJ2_indexOfSupplementary_4cfef 62 = .ok (.ireturn, 1) := by decide +kernel
theorem dJ2_indexOfSupplementary_4cfef_63 : decode cJ2_indexOfSupplementary_4cfef 63 = .ok (.iinc 6 1, 3) := by decide +kernel
theorem dJ2_indexOfSupplementary_4cfef_66 : decode cJ2_indexOfSupplementary_4cfef 66 = .ok (.goto (-38), 3) := by decide +kernel
theorem dJ2_indexOfSupplementary_4cfef_69 : decode cJ2_indexOfSupplementary_4cfef 69 = .ok (.iconst (-1), 1) := by decide +kernel
theorem dJ2_indexOfSupplementary_4cfef_70 : decode cJ2_indexOfSupplementary_4cfef 70 = .ok (.ireturn, 1) := by decide +kernel
theorem dJ2_charAt_3b067_0 : decode cJ2_charAt_3b067 0 = .ok (.iload_n 1, 1) := by decide +kernel
theorem dJ2_charAt_3b067_1 : decode cJ2_charAt_3b067 1 = .ok (.aload_n 0, 1) := by decide +kernel
theorem dJ2_charAt_3b067_2 : decode cJ2_charAt_3b067 2 = .ok (.invokestatic 67, 3) := by decide +kernel
theorem dJ2_charAt_3b067_5 : decode cJ2_charAt_3b067 5 = .ok (.aload_n 0, 1) := by decide +kernel
theorem dJ2_charAt_3b067_6 : decode cJ2_charAt_3b067 6 = .ok (.iload_n 1, 1) := by decide +kernel
theorem dJ2_charAt_3b067_7 : decode cJ2_charAt_3b067 7 = .ok (.invokestatic 71, 3) := by decide +kernel
theorem dJ2_charAt_3b067_10 : decode cJ2_charAt_3b067 10 = .ok (.ireturn, 1) := by decide +kernel
theorem dJ2_checkIndex_2214a_0 : decode cJ2_checkIndex_2214a 0 = .ok (.iload_n 0, 1) := by decide +kernel
theorem dJ2_checkIndex_2214a_1 : decode cJ2_checkIndex_2214a 1 = .ok (.aload_n 1, 1) := by decide +kernel
theorem dJ2_checkIndex_2214a_2 : decode cJ2_checkIndex_2214a 2 = .ok (.invokestatic 48, 3) := by decide +kernel
theorem dJ2_checkIndex_2214a_5 : decode cJ2_checkIndex_2214a 5 = .ok (.invokestatic 414, 3) := by decide +kernel
theorem dJ2_checkIndex_2214a_8 : decode cJ2_checkIndex_2214a 8 = .ok (.return_, 1) := by decide +kernel
theorem dJ2_checkBoundsBeginEnd_d044e_0 : decode cJ2_checkBoundsBeginEnd_d044e 0 = .ok (.iload_n 0, 1) := by decide +kernel
theorem dJ2_checkBoundsBeginEnd_d044e_1 : decode cJ2_checkBoundsBeginEnd_d044e 1 = .ok (.iload_n 1, 1) := by decide +kernel
theorem dJ2_checkBoundsBeginEnd_d044e_2 : decode cJ2_checkBoundsBeginEnd_d044e 2 = .ok (.aload_n 2, 1) := by decide +kernel
theorem dJ2_checkBoundsBeginEnd_d044e_3 : decode cJ2_checkBoundsBeginEnd_d044e 3 = .ok (.invokestatic 48, 3) := by decide +kernel
theorem dJ2_checkBoundsBeginEnd_d044e_6 : decode cJ2_checkBoundsBeginEnd_d044e 6 = .ok (.invokestatic 241, 3) := by decide +kernel
theorem dJ2_checkBoundsBeginEnd_d044e_9 : decode cJ2_checkBoundsBeginEnd_d044e 9 = .ok (.return_, 1) := by decide +kernel
theorem dJ3_checkIndex_8e157_0 : decode cJ3_checkIndex_8e157 0 = .ok (.iload_n 0, 1) := by decide +kernel
theorem dJ3_checkIndex_8e157_1 : decode cJ3_checkIndex_8e157 1 = .ok (.ifCond .lt 8, 3) := by decide +kernel
theorem dJ3_checkIndex_8e157_4 : decode cJ3_checkIndex_8e157 4 = .ok (.iload_n 0, 1) := by decide +kernel
theorem dJ3_checkIndex_8e157_5 : decode cJ3_checkIndex_8e157 5 = .ok (.iload_n 1, 1) := by decide +kernel
theorem dJ3_checkIndex_8e157_6 : decode cJ3_checkIndex_8e157 6 = .ok (.if_icmp .lt 10, 3) := by decide +kernel
theorem dJ3_checkIndex_8e157_9 : decode cJ3_checkIndex_8e157 9 = .ok (.aload_n 2, 1) := by decide +kernel
theorem dJ3_checkIndex_8e157_10 : decode cJ3_checkIndex_8e157 10 = .ok (.iload_n 0, 1) := by decide +kernel
theorem dJ3_checkIndex_8e157_11 : decode cJ3_checkIndex_8e157 11 = .ok (.iload_n 1, 1) := by decide +kernel
theorem dJ3_checkIndex_8e157_12 : decode cJ3_checkIndex_8e157 12 = .ok (.invokestatic 95, 3) := by decide +kernel
theorem dJ3_checkIndex_8e157_15 : decode cJ3_checkIndex_8e157 15 = .ok (.athrow, 1) := by decide +kernel
theorem dJ3_checkIndex_8e157_16 : decode cJ3_checkIndex_8e157 16 = .ok (.iload_n 0, 1) := by decide +kernel
theorem dJ3_checkIndex_8e157_17 : decode cJ3_checkIndex_8e157 17 = .ok (.ireturn, 1) := by decide +kernel
theorem dJ3_checkFromToIndex_8c36e_0 : decode cJ3_checkFromToIndex_8c36e 0 = .ok (.iload_n 0, 1) := by decide +kernel
theorem dJ3_checkFromToIndex_8c36e_1 : decode cJ3_checkFromToIndex_8c36e 1 = .ok (.ifCond .lt 13, 3) := by decide +kernel
theorem dJ3_checkFromToIndex_8c36e_4 : decode cJ3_checkFromToIndex_8c36e 4 = .ok (.iload_n 0, 1) := by decide +kernel
theorem dJ3_checkFromToIndex_8c36e_5 : decode cJ3_checkFromToIndex_8c36e 5 = .ok (.iload_n 1, 1) := by decide +kernel
theorem dJ3_checkFromToIndex_8c36e_6 : decode cJ3_checkFromToIndex_8c36e 6 = .ok (.if_icmp .gt 8, 3) := by decide +kernel
theorem dJ3_checkFromToIndex_8c36e_9 : decode cJ3_checkFromToIndex_8c36e 9 = .ok (.iload_n 1, 1) := by decide +kernel
theorem dJ3_checkFromToIndex_8c36e_10 : decode cJ3_checkFromToIndex_8c36e 10 = .ok (.iload_n 2, 1) := by decide +kernel
theorem dJ3_checkFromToIndex_8c36e_11 : decode cJ3_checkFromToIndex_8c36e 11 = .ok (.if_icmp .le 11, 3) := by decide +kernel
theorem dJ3_checkFromToIndex_8c36e_14 : decode cJ3_checkFromToIndex_8c36e 14 = .ok (.aload_n 3, 1) := by decide +kernel
theorem dJ3_checkFromToIndex_8c36e_15 : decode cJ3_checkFromToIndex_8c36e 15 = .ok (.iload_n 0, 1) := by decide +kernel
theorem dJ3_checkFromToIndex_8c36e_16 : decode cJ3_checkFromToIndex_8c36e 16 = .ok (.iload_n 1, 1) := by decide +kernel
theorem dJ3_checkFromToIndex_8c36e_17 : decode cJ3_checkFromToIndex_8c36e 17 = .ok (.iload_n 2, 1) := by decide +kernel
theorem dJ3_checkFromToIndex_8c36e_18 : decode cJ3_checkFromToIndex_8c36e 18 = .ok (.invokestatic 99, 3) := by decide +kernel
theorem dJ3_checkFromToIndex_8c36e_21 : decode cJ3_checkFromToIndex_8c36e 21 = .ok (.athrow, 1) := by decide +kernel
theorem dJ3_checkFromToIndex_8c36e_22 : decode cJ3_checkFromToIndex_8c36e 22 = .ok (.iload_n 0, 1) := by decide +kernel
theorem dJ3_checkFromToIndex_8c36e_23 : decode cJ3_checkFromToIndex_8c36e 23 = .ok (.ireturn, 1) := by decide +kernel
theorem dJ6_bitCount_0f7a4_0 : decode cJ6_bitCount_0f7a4 0 = .ok (.iload_n 0, 1) := by decide +kernel
theorem dJ6_bitCount_0f7a4_1 : decode cJ6_bitCount_0f7a4 1 = .ok (.iload_n 0, 1) := by decide +kernel
theorem dJ6_bitCount_0f7a4_2 : decode cJ6_bitCount_0f7a4 2 = .ok (.iconst 1, 1) := by decide +kernel
theorem dJ6_bitCount_0f7a4_3 : decode cJ6_bitCount_0f7a4 3 = .ok (.iushr, 1) := by decide +kernel
theorem dJ6_bitCount_0f7a4_4 : decode cJ6_bitCount_0f7a4 4 = .ok (.ldc_w 265, 3) := by decide +kernel
theorem dJ6_bitCount_0f7a4_7 : decode cJ6_bitCount_0f7a4 7 = .ok (.iand, 1) := by decide +kernel
theorem dJ6_bitCount_0f7a4_8 : decode cJ6_bitCount_0f7a4 8 = .ok (.isub, 1) := by decide +kernel
theorem dJ6_bitCount_0f7a4_9 : decode cJ6_bitCount_0f7a4 9 = .ok (.istore_n 0, 1) := by decide +kernel
theorem dJ6_bitCount_0f7a4_10 : decode cJ6_bitCount_0f7a4 10 = .ok (.iload_n 0, 1) := by decide +kernel
theorem dJ6_bitCount_0f7a4_11 : decode cJ6_bitCount_0f7a4 11 = .ok (.ldc_w 266, 3) := by decide +kernel
theorem dJ6_bitCount_0f7a4_14 : decode cJ6_bitCount_0f7a4 14 = .ok (.iand, 1) := by decide +kernel
theorem dJ6_bitCount_0f7a4_15 : decode cJ6_bitCount_0f7a4 15 = .ok (.iload_n 0, 1) := by decide +kernel
theorem dJ6_bitCount_0f7a4_16 : decode cJ6_bitCount_0f7a4 16 = .ok (.iconst 2, 1) := by decide +kernel
theorem dJ6_bitCount_0f7a4_17 : decode cJ6_bitCount_0f7a4 17 = .ok (.iushr, 1) := by decide +kernel
theorem dJ6_bitCount_0f7a4_18 : decode cJ6_bitCount_0f7a4 18 = .ok (.ldc_w 266, 3) := by decide +kernel
theorem dJ6_bitCount_0f7a4_21 : decode cJ6_bitCount_0f7a4 21 = .ok (.iand, 1) := by decide +kernel
theorem dJ6_bitCount_0f7a4_22 : decode cJ6_bitCount_0f7a4 22 = .ok (.iadd, 1) := by decide +kernel
theorem dJ6_bitCount_0f7a4_23 : decode cJ6_bitCount_0f7a4 23 = .ok (.istore_n 0, 1) := by decide +kernel
theorem dJ6_bitCount_0f7a4_24 : decode cJ6_bitCount_0f7a4 24 = .ok (.iload_n 0, 1) := by decide +kernel
theorem dJ6_bitCount_0f7a4_25 : decode cJ6_bitCount_0f7a4 25 = .ok (.iload_n 0, 1) := by decide +kernel
theorem dJ6_bitCount_0f7a4_26 : decode cJ6_bitCount_0f7a4 26 = .ok (.iconst 4, 1) := by decide +kernel
theorem dJ6_bitCount_0f7a4_27 : decode cJ6_bitCount_0f7a4 27 = .ok (.iushr, 1) := by decide +kernel
theorem dJ6_bitCount_0f7a4_28 : decode cJ6_bitCount_0f7a4 28 = .ok (.iadd, 1) := by decide +kernel
theorem dJ6_bitCount_0f7a4_29 : decode cJ6_bitCount_0f7a4 29 = .ok (.ldc_w 267, 3) := by decide +kernel
theorem dJ6_bitCount_0f7a4_32 : decode cJ6_bitCount_0f7a4 32 = .ok (.iand, 1) := by decide +kernel
theorem dJ6_bitCount_0f7a4_33 : decode cJ6_bitCount_0f7a4 33 = .ok (.istore_n 0, 1) := by decide +kernel
theorem dJ6_bitCount_0f7a4_34 : decode cJ6_bitCount_0f7a4 34 = .ok (.iload_n 0, 1) := by decide +kernel
theorem dJ6_bitCount_0f7a4_35 : decode cJ6_bitCount_0f7a4 35 = .ok (.iload_n 0, 1) := by decide +kernel
theorem dJ6_bitCount_0f7a4_36 : decode cJ6_bitCount_0f7a4 36 = .ok (.bipush 8, 2) := by decide +kernel
theorem dJ6_bitCount_0f7a4_38 : decode cJ6_bitCount_0f7a4 38 = .ok (.iushr, 1) := by decide +kernel
theorem dJ6_bitCount_0f7a4_39 : decode cJ6_bitCount_0f7a4 39 = .ok (.iadd, 1) := by decide +kernel
theorem dJ6_bitCount_0f7a4_40 : decode cJ6_bitCount_0f7a4 40 = .ok (.istore_n 0, 1) := by decide +kernel
theorem dJ6_bitCount_0f7a4_41 : decode cJ6_bitCount_0f7a4 41 = .ok (.iload_n 0, 1) := by decide +kernel
theorem dJ6_bitCount_0f7a4_42 : decode cJ6_bitCount_0f7a4 42 = .ok (.iload_n 0, 1) := by decide +kernel
theorem dJ6_bitCount_0f7a4_43 : decode cJ6_bitCount_0f7a4 43 = .ok (.bipush 16, 2) := by decide +kernel
theorem dJ6_bitCount_0f7a4_45 : decode cJ6_bitCount_0f7a4 45 = .ok (.iushr, 1) := by decide +kernel
theorem dJ6_bitCount_0f7a4_46 : decode cJ6_bitCount_0f7a4 46 = .ok (.iadd, 1) := by decide +kernel
theorem dJ6_bitCount_0f7a4_47 : decode cJ6_bitCount_0f7a4 47 = .ok (.istore_n 0, 1) := by decide +kernel
theorem dJ6_bitCount_0f7a4_48 : decode cJ6_bitCount_0f7a4 48 = .ok (.iload_n 0, 1) := by decide +kernel
theorem dJ6_bitCount_0f7a4_49 : decode cJ6_bitCount_0f7a4 49 = .ok (.bipush 63, 2) := by decide +kernel
theorem dJ6_bitCount_0f7a4_51 : decode cJ6_bitCount_0f7a4 51 = .ok (.iand, 1) := by decide +kernel
theorem dJ6_bitCount_0f7a4_52 : decode cJ6_bitCount_0f7a4 52 = .ok (.ireturn, 1) := by decide +kernel
theorem dJ7_fill_d0a16_0 : decode cJ7_fill_d0a16 0 = .ok (.iconst 0, 1) := by decide +kernel
theorem dJ7_fill_d0a16_1 : decode cJ7_fill_d0a16 1 = .ok (.istore_n 3, 1) := by decide +kernel
theorem dJ7_fill_d0a16_2 : decode cJ7_fill_d0a16 2 = .ok (.aload_n 0, 1) := by decide +kernel
theorem dJ7_fill_d0a16_3 : decode cJ7_fill_d0a16 3 = .ok (.arraylength, 1) := by decide +kernel
theorem dJ7_fill_d0a16_4 : decode cJ7_fill_d0a16 4 = .ok (.istore 4, 2) := by decide +kernel
theorem dJ7_fill_d0a16_6 : decode cJ7_fill_d0a16 6 = .ok (.iload_n 3, 1) := by decide +kernel
theorem dJ7_fill_d0a16_7 : decode cJ7_fill_d0a16 7 = .ok (.iload 4, 2) := by decide +kernel
theorem dJ7_fill_d0a16_9 : decode cJ7_fill_d0a16 9 = .ok (.if_icmp .ge 13, 3) := by decide +kernel
theorem dJ7_fill_d0a16_12 : decode cJ7_fill_d0a16 12 = .ok (.aload_n 0, 1) := by decide +kernel
theorem dJ7_fill_d0a16_13 : decode cJ7_fill_d0a16 13 = .ok (.iload_n 3, 1) := by decide +kernel
theorem dJ7_fill_d0a16_14 : decode cJ7_fill_d0a16 14 = .ok (.lload_n 1, 1) := by decide +kernel
theorem dJ7_fill_d0a16_15 : decode cJ7_fill_d0a16 15 = .ok (.lastore, 1) := by decide +kernel
theorem dJ7_fill_d0a16_16 : decode cJ7_fill_d0a16 16 = .ok (.iinc 3 1, 3) := by decide +kernel
theorem dJ7_fill_d0a16_19 : decode cJ7_fill_d0a16 19 = .ok (.goto (-13), 3) := by decide +kernel
theorem dJ7_fill_d0a16_22 : decode cJ7_fill_d0a16 22 = .ok (.return_, 1) := by decide +kernel
theorem dJ7_fill_53178_0 : decode cJ7_fill_53178 0 = .ok (.iconst 0, 1) := by decide +kernel
theorem dJ7_fill_53178_1 : decode cJ7_fill_53178 1 = .ok (.istore_n 2, 1) := by decide +kernel
theorem dJ7_fill_53178_2 : decode cJ7_fill_53178 2 = .ok (.aload_n 0, 1) := by decide +kernel
theorem dJ7_fill_53178_3 : decode cJ7_fill_53178 3 = .ok (.arraylength, 1) := by decide +kernel
theorem dJ7_fill_53178_4 : decode cJ7_fill_53178 4 = .ok (.istore_n 3, 1) := by decide +kernel
theorem dJ7_fill_53178_5 : decode cJ7_fill_53178 5 = .ok (.iload_n 2, 1) := by decide +kernel
theorem dJ7_fill_53178_6 : decode cJ7_fill_53178 6 = .ok (.iload_n 3, 1) := by decide +kernel
theorem dJ7_fill_53178_7 : decode cJ7_fill_53178 7 = .ok (.if_icmp .ge 13, 3) := by decide +kernel
theorem dJ7_fill_53178_10 : decode cJ7_fill_53178 10 = .ok (.aload_n 0, 1) := by decide +kernel
theorem dJ7_fill_53178_11 : decode cJ7_fill_53178 11 = .ok (.iload_n 2, 1) := by decide +kernel
theorem dJ7_fill_53178_12 : decode cJ7_fill_53178 12 = .ok (.iload_n 1, 1) := by decide +kernel
theorem dJ7_fill_53178_13 : decode cJ7_fill_53178 13 = .ok (.iastore, 1) := by decide +kernel
theorem dJ7_fill_53178_14 : decode cJ7_fill_53178 14 = .ok (.iinc 2 1, 3) := by decide +kernel
theorem dJ7_fill_53178_17 : decode cJ7_fill_53178 17 = .ok (.goto (-12), 3) := by decide +kernel
theorem dJ7_fill_53178_20 : decode cJ7_fill_53178 20 = .ok (.return_, 1) := by decide +kernel
theorem dJ9_max_7cf53_0 : decode cJ9_max_7cf53 0 = .ok (.iload_n 0, 1) := by decide +kernel
theorem dJ9_max_7cf53_1 : decode cJ9_max_7cf53 1 = .ok (.iload_n 1, 1) := by decide +kernel
theorem dJ9_max_7cf53_2 : decode cJ9_max_7cf53 2 = .ok (.if_icmp .lt 7, 3) := by decide +kernel
theorem dJ9_max_7cf53_5 : decode cJ9_max_7cf53 5 = .ok (.iload_n 0, 1) := by decide +kernel
theorem dJ9_max_7cf53_6 : decode cJ9_max_7cf53 6 = .ok (.goto 4, 3) := by decide +kernel
theorem dJ9_max_7cf53_9 : decode cJ9_max_7cf53 9 = .ok (.iload_n 1, 1) := by decide +kernel
theorem dJ9_max_7cf53_10 : decode cJ9_max_7cf53 10 = .ok (.ireturn, 1) := by decide +kernel
theorem dJ9_min_7cf53_0 : decode cJ9_min_7cf53 0 = .ok (.iload_n 0, 1) := by decide +kernel
theorem dJ9_min_7cf53_1 : decode cJ9_min_7cf53 1 = .ok (.iload_n 1, 1) := by decide +kernel
theorem dJ9_min_7cf53_2 : decode cJ9_min_7cf53 2 = .ok (.if_icmp .gt 7, 3) := by decide +kernel
theorem dJ9_min_7cf53_5 : decode cJ9_min_7cf53 5 = .ok (.iload_n 0, 1) := by decide +kernel
theorem dJ9_min_7cf53_6 : decode cJ9_min_7cf53 6 = .ok (.goto 4, 3) := by decide +kernel
theorem dJ9_min_7cf53_9 : decode cJ9_min_7cf53 9 = .ok (.iload_n 1, 1) := by decide +kernel
theorem dJ9_min_7cf53_10 : decode cJ9_min_7cf53 10 = .ok (.ireturn, 1) := by decide +kernel
theorem dJ11_isValidCodePoint_9a6ad_0 : decode cJ11_isValidCodePoint_9a6ad 0 = .ok (.iload_n 0, 1) := by decide +kernel
theorem dJ11_isValidCodePoint_9a6ad_1 : decode cJ11_isValidCodePoint_9a6ad 1 = .ok (.bipush 16, 2) := by decide +kernel
theorem dJ11_isValidCodePoint_9a6ad_3 : decode cJ11_isValidCodePoint_9a6ad 3 = .ok (.iushr, 1) := by decide +kernel
theorem dJ11_isValidCodePoint_9a6ad_4 : decode cJ11_isValidCodePoint_9a6ad 4 = .ok (.istore_n 1, 1) := by decide +kernel
theorem dJ11_isValidCodePoint_9a6ad_5 : decode cJ11_isValidCodePoint_9a6ad 5 = .ok (.iload_n 1, 1) := by decide +kernel
theorem dJ11_isValidCodePoint_9a6ad_6 : decode cJ11_isValidCodePoint_9a6ad 6 = .ok (.bipush 17, 2) := by decide +kernel
theorem dJ11_isValidCodePoint_9a6ad_8 : decode cJ11_isValidCodePoint_9a6ad 8 = .ok (.if_icmp .ge 7, 3) := by decide +kernel
theorem dJ11_isValidCodePoint_9a6ad_11 : decode cJ11_isValidCodePoint_9a6ad 11 = .ok (.iconst 1, 1) := by decide +kernel
theorem dJ11_isValidCodePoint_9a6ad_12 : decode cJ11_isValidCodePoint_9a6ad 12 = .ok (.goto 4, 3) := by decide +kernel
theorem dJ11_isValidCodePoint_9a6ad_15 : decode cJ11_isValidCodePoint_9a6ad 15 = .ok (.iconst 0, 1) := by decide +kernel
theorem dJ11_isValidCodePoint_9a6ad_16 : decode cJ11_isValidCodePoint_9a6ad 16 = .ok (.ireturn, 1) := by decide +kernel
theorem dJ11_highSurrogate_5068e_0 : decode cJ11_highSurrogate_5068e 0 = .ok (.iload_n 0, 1) := by decide +kernel
theorem dJ11_highSurrogate_5068e_1 : decode cJ11_highSurrogate_5068e 1 = .ok (.bipush 10, 2) := by decide +kernel
theorem dJ11_highSurrogate_5068e_3 : decode cJ11_highSurrogate_5068e 3 = .ok (.iushr, 1) := by decide +kernel
theorem dJ11_highSurrogate_5068e_4 : decode cJ11_highSurrogate_5068e 4 = .ok (.ldc 110, 2) := by decide +kernel
theorem dJ11_highSurrogate_5068e_6 : decode cJ11_highSurrogate_5068e 6 = .ok (.iadd, 1) := by decide +kernel
theorem dJ11_highSurrogate_5068e_7 : decode cJ11_highSurrogate_5068e 7 = .ok (.i2c, 1) := by decide +kernel
theorem dJ11_highSurrogate_5068e_8 : decode cJ11_highSurrogate_5068e 8 = .ok (.ireturn, 1) := by decide +kernel
theorem dJ11_lowSurrogate_5068e_0 : decode cJ11_lowSurrogate_5068e 0 = .ok (.iload_n 0, 1) := by decide +kernel
theorem dJ11_lowSurrogate_5068e_1 : decode cJ11_lowSurrogate_5068e 1 = .ok (.sipush 1023, 3) := by decide +kernel
theorem dJ11_lowSurrogate_5068e_4 : decode cJ11_lowSurrogate_5068e 4 = .ok (.iand, 1) := by decide +kernel
theorem dJ11_lowSurrogate_5068e_5 : decode cJ11_lowSurrogate_5068e 5 = .ok (.ldc 76, 2) := by decide +kernel
theorem dJ11_lowSurrogate_5068e_7 : decode cJ11_lowSurrogate_5068e 7 = .ok (.iadd, 1) := by decide +kernel
theorem dJ11_lowSurrogate_5068e_8 : decode cJ11_lowSurrogate_5068e 8 = .ok (.i2c, 1) := by decide +kernel
theorem dJ11_lowSurrogate_5068e_9 : decode cJ11_lowSurrogate_5068e 9 = .ok (.ireturn, 1) := by decide +kernel
theorem dX0_init_0 : decode cX0_init 0 = .ok (.aload_n 0, 1) := by decide +kernel
theorem dX0_init_1 : decode cX0_init 1 = .ok (.invokespecial 3, 3) := by decide +kernel
theorem dX0_init_4 : decode cX0_init 4 = .ok (.aload_n 0, 1) := by decide +kernel
theorem dX0_init_5 : decode cX0_init 5 = .ok (.bipush 20, 2) := by decide +kernel
theorem dX0_init_7 : decode cX0_init 7 = .ok (.newarray .int, 2) := by decide +kernel
theorem dX0_init_9 : decode cX0_init 9 = .ok (.putfield 9, 3) := by decide +kernel
theorem dX0_init_12 : decode cX0_init 12 = .ok (.return_, 1) := by decide +kernel
theorem dX0_begin_0 : decode cX0_begin 0 = .ok (.aload_n 0, 1) := by decide +kernel
theorem dX0_begin_1 : decode cX0_begin 1 = .ok (.aload_n 1, 1) := by decide +kernel
theorem dX0_begin_2 : decode cX0_begin 2 = .ok (.getfield 15, 3) := by decide +kernel
theorem dX0_begin_5 : decode cX0_begin 5 = .ok (.putfield 21, 3) := by decide +kernel
theorem dX0_begin_8 : decode cX0_begin 8 = .ok (.aload_n 0, 1) := by decide +kernel
theorem dX0_begin_9 : decode cX0_begin 9 = .ok (.aload_n 1, 1) := by decide +kernel
theorem dX0_begin_10 : decode cX0_begin 10 = .ok (.getfield 22, 3) := by decide +kernel
theorem dX0_begin_13 : decode cX0_begin 13 = .ok (.putfield 25, 3) := by decide +kernel
theorem dX0_begin_16 : decode cX0_begin 16 = .ok (.aload_n 0, 1) := by decide +kernel
theorem dX0_begin_17 : decode cX0_begin 17 = .ok (.iload_n 2, 1) := by decide +kernel
theorem dX0_begin_18 : decode cX0_begin 18 = .ok (.putfield 26, 3) := by decide +kernel
theorem dX0_begin_21 : decode cX0_begin 21 = .ok (.aload_n 0, 1) := by decide +kernel
theorem dX0_begin_22 : decode cX0_begin 22 = .ok (.iconst 0, 1) := by decide +kernel
theorem dX0_begin_23 : decode cX0_begin 23 = .ok (.putfield 29, 3) := by decide +kernel
theorem dX0_begin_26 : decode cX0_begin 26 = .ok (.aload_n 0, 1) := by decide +kernel
theorem dX0_begin_27 : decode cX0_begin 27 = .ok (.aload_n 0, 1) := by decide +kernel
theorem dX0_begin_28 : decode cX0_begin 28 = .ok (.getfield 21, 3) := by decide +kernel
theorem dX0_begin_31 : decode cX0_begin 31 = .ok (.iload_n 3, 1) := by decide +kernel
theorem dX0_begin_32 : decode cX0_begin 32 = .ok (.iload 4, 2) := by decide +kernel
theorem dX0_begin_34 : decode cX0_begin 34 = .ok (.iconst 0, 1) := by decide +kernel
theorem dX0_begin_35 : decode cX0_begin 35 = .ok (.invokevirtual 32, 3) := by decide +kernel
theorem dX0_begin_38 : decode cX0_begin 38 = .ok (.ireturn, 1) := by decide +kernel
theorem dX0_perform_0 : decode cX0_perform 0 = .ok (.iload_n 1, 1) := by decide +kernel
theorem dX0_perform_1 : decode cX0_perform 1 = .ok (.istore 5, 2) := by decide +kernel
theorem dX0_perform_3 : decode cX0_perform 3 = .ok (.iconst 0, 1) := by decide +kernel
theorem dX0_perform_4 : decode cX0_perform 4 = .ok (.istore 6, 2) := by decide +kernel
theorem dX0_perform_6 : decode cX0_perform 6 = .ok (.iload 6, 2) := by decide +kernel
theorem dX0_perform_8 : decode cX0_perform 8 = .ok (.bipush 7, 2) := by decide +kernel
theorem dX0_perform_10 : decode cX0_perform 10 = .ok (.if_icmp .ge 35, 3) := by decide +kernel
theorem dX0_perform_13 : decode cX0_perform 13 = .ok (.iload 5, 2) := by decide +kernel
theorem dX0_perform_15 : decode cX0_perform 15 = .ok (.ifCond .lt 30, 3) := by decide +kernel
theorem dX0_perform_18 : decode cX0_perform 18 = .ok (.getstatic 36, 3) := by decide +kernel
theorem dX0_perform_21 : decode cX0_perform 21 = .ok (.iload 5, 2) := by decide +kernel
theorem dX0_perform_23 : decode cX0_perform 23 = .ok (.iconst 3, 1) := by decide +kernel
theorem dX0_perform_24 : decode cX0_perform 24 = .ok (.imul, 1) := by decide +kernel
theorem dX0_perform_25 : decode cX0_perform 25 = .ok (.iload_n 2, 1) := by decide +kernel
theorem dX0_perform_26 : decode cX0_perform 26 = .ok (.iadd, 1) := by decide +kernel
theorem dX0_perform_27 : decode cX0_perform 27 = .ok (.iaload, 1) := by decide +kernel
theorem dX0_perform_28 : decode cX0_perform 28 = .ok (.ifCond .ne 17, 3) := by decide +kernel
theorem dX0_perform_31 : decode cX0_perform 31 = .ok (.getstatic 39, 3) := by decide +kernel
theorem dX0_perform_34 : decode cX0_perform 34 = .ok (.iload 5, 2) := by decide +kernel
theorem dX0_perform_36 : decode cX0_perform 36 = .ok (.iaload, 1) := by decide +kernel
theorem dX0_perform_37 : decode cX0_perform 37 = .ok (.istore 5, 2) := by decide +kernel
theorem dX0_perform_39 : decode cX0_perform 39 = .ok (.iinc 6 1, 3) := by decide +kernel
theorem dX0_perform_42 : decode cX0_perform 42 = .ok (.goto (-36), 3) := by decide +kernel
theorem dX0_perform_45 : decode cX0_perform 45 = .ok (.iload 5, 2) := by decide +kernel
theorem dX0_perform_47 : decode cX0_perform 47 = .ok (.ifCond .lt 10, 3) := by decide +kernel
theorem dX0_perform_50 : decode cX0_perform 50 = .ok (.iload 4, 2) := by decide +kernel
theorem dX0_perform_52 : decode cX0_perform 52 = .ok (.bipush 40, 2) := by decide +kernel
theorem dX0_perform_54 : decode cX0_perform 54 = .ok (.if_icmp .le 5, 3) := by decide +kernel
theorem dX0_perform_57 : decode cX0_perform 57 = .ok (.iconst 0, 1) := by decide +kernel
theorem dX0_perform_58 : decode cX0_perform 58 = .ok (.ireturn, 1) := by decide +kernel
theorem dX0_perform_59 : decode cX0_perform 59 = .ok (.getstatic 36, 3) := by decide +kernel
theorem dX0_perform_62 : decode cX0_perform 62 = .ok (.iload 5, 2) := by decide +kernel
theorem dX0_perform_64 : decode cX0_perform 64 = .ok (.iconst 3, 1) := by decide +kernel
theorem dX0_perform_65 : decode cX0_perform 65 = .ok (.imul, 1) := by decide +kernel
theorem dX0_perform_66 : decode cX0_perform 66 = .ok (.iload_n 2, 1) := by decide +kernel
theorem dX0_perform_67 : decode cX0_perform 67 = .ok (.iadd, 1) := by decide +kernel
theorem dX0_perform_68 : decode cX0_perform 68 = .ok (.iaload, 1) := by decide +kernel
theorem dX0_perform_69 : decode cX0_perform 69 = .ok (.istore 6, 2) := by decide +kernel
theorem dX0_perform_71 : decode cX0_perform 71 = .ok (.aload_n 0, 1) := by decide +kernel
theorem dX0_perform_72 : decode cX0_perform 72 = .ok (.getfield 29, 3) := by decide +kernel
theorem dX0_perform_75 : decode cX0_perform 75 = .ok (.bipush 20, 2) := by decide +kernel
theorem dX0_perform_77 : decode cX0_perform 77 = .ok (.if_icmp .ge 14, 3) := by decide +kernel
theorem dX0_perform_80 : decode cX0_perform 80 = .ok (.aload_n 0, 1) := by decide +kernel
theorem dX0_perform_81 : decode cX0_perform 81 = .ok (.getfield 9, 3) := by decide +kernel
theorem dX0_perform_84 : decode cX0_perform 84 = .ok (.aload_n 0, 1) := by decide +kernel
theorem dX0_perform_85 : decode cX0_perform 85 = .ok (.getfield 29, 3) := by decide +kernel
theorem dX0_perform_88 : decode cX0_perform 88 = .ok (.iload 6, 2) := by decide +kernel
theorem dX0_perform_90 : decode cX0_perform 90 = .ok (.iastore, 1) := by decide +kernel
theorem dX0_perform_91 : decode cX0_perform 91 = .ok (.aload_n 0, 1) := by decide +kernel
theorem dX0_perform_92 : decode cX0_perform 92 = .ok (.dup, 1) := by decide +kernel
theorem dX0_perform_93 : decode cX0_perform 93 = .ok (.getfield 29, 3) := by decide +kernel
theorem dX0_perform_96 : decode cX0_perform 96 = .ok (.iconst 1, 1) := by decide +kernel
theorem dX0_perform_97 : decode cX0_perform 97 = .ok (.iadd, 1) := by decide +kernel
theorem dX0_perform_98 : decode cX0_perform 98 = .ok (.putfield 29, 3) := by decide +kernel
theorem dX0_perform_101 : decode cX0_perform 101 = .ok (.aload_n 0, 1) := by decide +kernel
theorem dX0_perform_102 : decode cX0_perform 102 = .ok (.iload 6, 2) := by decide +kernel
theorem dX0_perform_104 : decode cX0_perform 104 = .ok (.getstatic 39, 3) := by decide +kernel
theorem dX0_perform_107 : decode cX0_perform 107 = .ok (.iload 5, 2) := by decide +kernel
theorem dX0_perform_109 : decode cX0_perform 109 = .ok (.iaload, 1) := by decide +kernel
theorem dX0_perform_110 : decode cX0_perform 110 = .ok (.iload_n 3, 1) := by decide +kernel
theorem dX0_perform_111 : decode cX0_perform 111 = .ok (.iload 4, 2) := by decide +kernel
theorem dX0_perform_113 : decode cX0_perform 113 = .ok (.iconst 1, 1) := by decide +kernel
theorem dX0_perform_114 : decode cX0_perform 114 = .ok (.iadd, 1) := by decide +kernel
theorem dX0_perform_115 : decode cX0_perform 115 = .ok (.invokevirtual 42, 3) := by decide +kernel
theorem dX0_perform_118 : decode cX0_perform 118 = .ok (.ireturn, 1) := by decide +kernel
theorem dX0_answer_0 : decode cX0_answer 0 = .ok (.iload_n 1, 1) := by decide +kernel
theorem dX0_answer_1 : decode cX0_answer 1 = .ok (.lookupswitch 260 #[(10, 99), (11, 106), (12, 124), (20, 139), (30, 152), (40, 164), (50, 187), (51, 198), (60, 210), (70, 225), (71, 245)], 99) := by decide +kernel
theorem dX0_answer_100 : decode cX0_answer 100 = .ok (.iload_n 3, 1) := by decide +kernel
theorem dX0_answer_101 : decode cX0_answer 101 = .ok (.aload_n 0, 1) := by decide +kernel
theorem dX0_answer_102 : decode cX0_answer 102 = .ok (.getfield 26, 3) := by decide +kernel
theorem dX0_answer_105 : decode cX0_answer 105 = .ok (.iadd, 1) := by decide +kernel
theorem dX0_answer_106 : decode cX0_answer 106 = .ok (.ireturn, 1) := by decide +kernel
theorem dX0_answer_107 : decode cX0_answer 107 = .ok (.aload_n 0, 1) := by decide +kernel
theorem dX0_answer_108 : decode cX0_answer 108 = .ok (.aload_n 0, 1) := by decide +kernel
theorem dX0_answer_109 : decode cX0_answer 109 = .ok (.getfield 21, 3) := by decide +kernel
theorem dX0_answer_112 : decode cX0_answer 112 = .ok (.iconst 0, 1) := by decide +kernel
theorem dX0_answer_113 : decode cX0_answer 113 = .ok (.iload_n 3, 1) := by decide +kernel
theorem dX0_answer_114 : decode cX0_answer 114 = .ok (.iload 4, 2) := by decide +kernel
theorem dX0_answer_116 : decode cX0_answer 116 = .ok (.invokevirtual 32, 3) := by decide +kernel
theorem dX0_answer_119 : decode cX0_answer 119 = .ok (.aload_n 0, 1) := by decide +kernel
theorem dX0_answer_120 : decode cX0_answer 120 = .ok (.getfield 25, 3) := by decide +kernel
theorem dX0_answer_123 : decode cX0_answer 123 = .ok (.isub, 1) := by decide +kernel
theorem dX0_answer_124 : decode cX0_answer 124 = .ok (.ireturn, 1) := by decide +kernel
theorem dX0_answer_125 : decode cX0_answer 125 = .ok (.aload_n 0, 1) := by decide +kernel
theorem dX0_answer_126 : decode cX0_answer 126 = .ok (.aload_n 0, 1) := by decide +kernel
theorem dX0_answer_127 : decode cX0_answer 127 = .ok (.getfield 21, 3) := by decide +kernel
theorem dX0_answer_130 : decode cX0_answer 130 = .ok (.iconst 1, 1) := by decide +kernel
theorem dX0_answer_131 : decode cX0_answer 131 = .ok (.iload_n 3, 1) := by decide +kernel
theorem dX0_answer_132 : decode cX0_answer 132 = .ok (.iload 4, 2) := by decide +kernel
theorem dX0_answer_134 : decode cX0_answer 134 = .ok (.invokevirtual 32, 3) := by decide +kernel
theorem dX0_answer_137 : decode cX0_answer 137 = .ok (.iconst 2, 1) := by decide +kernel
theorem dX0_answer_138 : decode cX0_answer 138 = .ok (.imul, 1) := by decide +kernel
theorem dX0_answer_139 : decode cX0_answer 139 = .ok (.ireturn, 1) := by decide +kernel
theorem dX0_answer_140 : decode cX0_answer 140 = .ok (.aload_n 0, 1) := by decide +kernel
theorem dX0_answer_141 : decode cX0_answer 141 = .ok (.iload_n 2, 1) := by decide +kernel
theorem dX0_answer_142 : decode cX0_answer 142 = .ok (.iconst 1, 1) := by decide +kernel
theorem dX0_answer_143 : decode cX0_answer 143 = .ok (.iload_n 3, 1) := by decide +kernel
theorem dX0_answer_144 : decode cX0_answer 144 = .ok (.iload 4, 2) := by decide +kernel
theorem dX0_answer_146 : decode cX0_answer 146 = .ok (.invokevirtual 32, 3) := by decide +kernel
theorem dX0_answer_149 : decode cX0_answer 149 = .ok (.bipush 6, 2) := by decide +kernel
theorem dX0_answer_151 : decode cX0_answer 151 = .ok (.ixor, 1) := by decide +kernel
theorem dX0_answer_152 : decode cX0_answer 152 = .ok (.ireturn, 1) := by decide +kernel
theorem dX0_answer_153 : decode cX0_answer 153 = .ok (.aload_n 0, 1) := by decide +kernel
theorem dX0_answer_154 : decode cX0_answer 154 = .ok (.iload_n 2, 1) := by decide +kernel
theorem dX0_answer_155 : decode cX0_answer 155 = .ok (.iconst 0, 1) := by decide +kernel
theorem dX0_answer_156 : decode cX0_answer 156 = .ok (.iload_n 3, 1) := by decide +kernel
theorem dX0_answer_157 : decode cX0_answer 157 = .ok (.iconst 3, 1) := by decide +kernel
theorem dX0_answer_158 : decode cX0_answer 158 = .ok (.imul, 1) := by decide +kernel
theorem dX0_answer_159 : decode cX0_answer 159 = .ok (.iload 4, 2) := by decide +kernel
theorem dX0_answer_161 : decode cX0_answer 161 = .ok (.invokevirtual 32, 3) := by decide +kernel
theorem dX0_answer_164 : decode cX0_answer 164 = .ok (.ireturn, 1) := by decide +kernel
theorem dX0_answer_165 : decode cX0_answer 165 = .ok (.aload_n 0, 1) := by decide +kernel
theorem dX0_answer_166 : decode cX0_answer 166 = .ok (.iload_n 2, 1) := by decide +kernel
theorem dX0_answer_167 : decode cX0_answer 167 = .ok (.iconst 2, 1) := by decide +kernel
theorem dX0_answer_168 : decode cX0_answer 168 = .ok (.iload_n 3, 1) := by decide +kernel
theorem dX0_answer_169 : decode cX0_answer 169 = .ok (.iload 4, 2) := by decide +kernel
theorem dX0_answer_171 : decode cX0_answer 171 = .ok (.invokevirtual 32, 3) := by decide +kernel
theorem dX0_answer_174 : decode cX0_answer 174 = .ok (.aload_n 0, 1) := by decide +kernel
theorem dX0_answer_175 : decode cX0_answer 175 = .ok (.aload_n 0, 1) := by decide +kernel
theorem dX0_answer_176 : decode cX0_answer 176 = .ok (.getfield 21, 3) := by decide +kernel
theorem dX0_answer_179 : decode cX0_answer 179 = .ok (.iconst 1, 1) := by decide +kernel
theorem dX0_answer_180 : decode cX0_answer 180 = .ok (.iconst 1, 1) := by decide +kernel
theorem dX0_answer_181 : decode cX0_answer 181 = .ok (.iload 4, 2) := by decide +kernel
theorem dX0_answer_183 : decode cX0_answer 183 = .ok (.invokevirtual 32, 3) := by decide +kernel
theorem dX0_answer_186 : decode cX0_answer 186 = .ok (.iadd, 1) := by decide +kernel
theorem dX0_answer_187 : decode cX0_answer 187 = .ok (.ireturn, 1) := by decide +kernel
theorem dX0_answer_188 : decode cX0_answer 188 = .ok (.aload_n 0, 1) := by decide +kernel
theorem dX0_answer_189 : decode cX0_answer 189 = .ok (.iload_n 2, 1) := by decide +kernel
theorem dX0_answer_190 : decode cX0_answer 190 = .ok (.iconst 0, 1) := by decide +kernel
theorem dX0_answer_191 : decode cX0_answer 191 = .ok (.iload_n 3, 1) := by decide +kernel
theorem dX0_answer_192 : decode cX0_answer 192 = .ok (.iload 4, 2) := by decide +kernel
theorem dX0_answer_194 : decode cX0_answer 194 = .ok (.invokevirtual 32, 3) := by decide +kernel
theorem dX0_answer_197 : decode cX0_answer 197 = .ok (.ineg, 1) := by decide +kernel
theorem dX0_answer_198 : decode cX0_answer 198 = .ok (.ireturn, 1) := by decide +kernel
theorem dX0_answer_199 : decode cX0_answer 199 = .ok (.aload_n 0, 1) := by decide +kernel
theorem dX0_answer_200 : decode cX0_answer 200 = .ok (.iload_n 2, 1) := by decide +kernel
theorem dX0_answer_201 : decode cX0_answer 201 = .ok (.iconst 1, 1) := by decide +kernel
theorem dX0_answer_202 : decode cX0_answer 202 = .ok (.iload_n 3, 1) := by decide +kernel
theorem dX0_answer_203 : decode cX0_answer 203 = .ok (.iconst 1, 1) := by decide +kernel
theorem dX0_answer_204 : decode cX0_answer 204 = .ok (.iadd, 1) := by decide +kernel
theorem dX0_answer_205 : decode cX0_answer 205 = .ok (.iload 4, 2) := by decide +kernel
theorem dX0_answer_207 : decode cX0_answer 207 = .ok (.invokevirtual 32, 3) := by decide +kernel
theorem dX0_answer_210 : decode cX0_answer 210 = .ok (.ireturn, 1) := by decide +kernel
theorem dX0_answer_211 : decode cX0_answer 211 = .ok (.aload_n 0, 1) := by decide +kernel
theorem dX0_answer_212 : decode cX0_answer 212 = .ok (.iload_n 2, 1) := by decide +kernel
theorem dX0_answer_213 : decode cX0_answer 213 = .ok (.iconst 2, 1) := by decide +kernel
theorem dX0_answer_214 : decode cX0_answer 214 = .ok (.iload_n 3, 1) := by decide +kernel
theorem dX0_answer_215 : decode cX0_answer 215 = .ok (.aload_n 0, 1) := by decide +kernel
theorem dX0_answer_216 : decode cX0_answer 216 = .ok (.getfield 26, 3) := by decide +kernel
theorem dX0_answer_219 : decode cX0_answer 219 = .ok (.isub, 1) := by decide +kernel
theorem dX0_answer_220 : decode cX0_answer 220 = .ok (.iload 4, 2) := by decide +kernel
theorem dX0_answer_222 : decode cX0_answer 222 = .ok (.invokevirtual 32, 3) := by decide +kernel
theorem dX0_answer_225 : decode cX0_answer 225 = .ok (.ireturn, 1) := by decide +kernel
theorem dX0_answer_226 : decode cX0_answer 226 = .ok (.aload_n 0, 1) := by decide +kernel
theorem dX0_answer_227 : decode cX0_answer 227 = .ok (.iload_n 2, 1) := by decide +kernel
theorem dX0_answer_228 : decode cX0_answer 228 = .ok (.iconst 1, 1) := by decide +kernel
theorem dX0_answer_229 : decode cX0_answer 229 = .ok (.iload_n 3, 1) := by decide +kernel
theorem dX0_answer_230 : decode cX0_answer 230 = .ok (.iload 4, 2) := by decide +kernel
theorem dX0_answer_232 : decode cX0_answer 232 = .ok (.invokevirtual 32, 3) := by decide +kernel
theorem dX0_answer_235 : decode cX0_answer 235 = .ok (.aload_n 0, 1) := by decide +kernel
theorem dX0_answer_236 : decode cX0_answer 236 = .ok (.iload_n 2, 1) := by decide +kernel
theorem dX0_answer_237 : decode cX0_answer 237 = .ok (.iconst 0, 1) := by decide +kernel
theorem dX0_answer_238 : decode cX0_answer 238 = .ok (.iconst 2, 1) := by decide +kernel
theorem dX0_answer_239 : decode cX0_answer 239 = .ok (.iload 4, 2) := by decide +kernel
theorem dX0_answer_241 : decode cX0_answer 241 = .ok (.invokevirtual 32, 3) := by decide +kernel
theorem dX0_answer_244 : decode cX0_answer 244 = .ok (.iadd, 1) := by decide +kernel
theorem dX0_answer_245 : decode cX0_answer 245 = .ok (.ireturn, 1) := by decide +kernel
theorem dX0_answer_246 : decode cX0_answer 246 = .ok (.aload_n 0, 1) := by decide +kernel
theorem dX0_answer_247 : decode cX0_answer 247 = .ok (.iload_n 2, 1) := by decide +kernel
theorem dX0_answer_248 : decode cX0_answer 248 = .ok (.iconst 0, 1) := by decide +kernel
theorem dX0_answer_249 : decode cX0_answer 249 = .ok (.iload_n 3, 1) := by decide +kernel
theorem dX0_answer_250 : decode cX0_answer 250 = .ok (.iload 4, 2) := by decide +kernel
theorem dX0_answer_252 : decode cX0_answer 252 = .ok (.invokevirtual 32, 3) := by decide +kernel
theorem dX0_answer_255 : decode cX0_answer 255 = .ok (.aload_n 0, 1) := by decide +kernel
theorem dX0_answer_256 : decode cX0_answer 256 = .ok (.getfield 25, 3) := by decide +kernel
theorem dX0_answer_259 : decode cX0_answer 259 = .ok (.ixor, 1) := by decide +kernel
theorem dX0_answer_260 : decode cX0_answer 260 = .ok (.ireturn, 1) := by decide +kernel
theorem dX0_answer_261 : decode cX0_answer 261 = .ok (.iconst 0, 1) := by decide +kernel
theorem dX0_answer_262 : decode cX0_answer 262 = .ok (.ireturn, 1) := by decide +kernel
theorem dX1_init_0 : decode cX1_init 0 = .ok (.aload_n 0, 1) := by decide +kernel
theorem dX1_init_1 : decode cX1_init 1 = .ok (.invokespecial 3, 3) := by decide +kernel
theorem dX1_init_4 : decode cX1_init 4 = .ok (.aload_n 0, 1) := by decide +kernel
theorem dX1_init_5 : decode cX1_init 5 = .ok (.bipush 100, 2) := by decide +kernel
theorem dX1_init_7 : decode cX1_init 7 = .ok (.newarray .int, 2) := by decide +kernel
theorem dX1_init_9 : decode cX1_init 9 = .ok (.putfield 9, 3) := by decide +kernel
theorem dX1_init_12 : decode cX1_init 12 = .ok (.aload_n 0, 1) := by decide +kernel
theorem dX1_init_13 : decode cX1_init 13 = .ok (.bipush 6, 2) := by decide +kernel
theorem dX1_init_15 : decode cX1_init 15 = .ok (.newarray .int, 2) := by decide +kernel
theorem dX1_init_17 : decode cX1_init 17 = .ok (.putfield 15, 3) := by decide +kernel
theorem dX1_init_20 : decode cX1_init 20 = .ok (.return_, 1) := by decide +kernel
theorem dX1_clear_0 : decode cX1_clear 0 = .ok (.aload_n 0, 1) := by decide +kernel
theorem dX1_clear_1 : decode cX1_clear 1 = .ok (.iconst 0, 1) := by decide +kernel
theorem dX1_clear_2 : decode cX1_clear 2 = .ok (.putfield 18, 3) := by decide +kernel
theorem dX1_clear_5 : decode cX1_clear 5 = .ok (.aload_n 0, 1) := by decide +kernel
theorem dX1_clear_6 : decode cX1_clear 6 = .ok (.iconst 0, 1) := by decide +kernel
theorem dX1_clear_7 : decode cX1_clear 7 = .ok (.putfield 22, 3) := by decide +kernel
theorem dX1_clear_10 : decode cX1_clear 10 = .ok (.return_, 1) := by decide +kernel
theorem dX1_add_0 : decode cX1_add 0 = .ok (.aload_n 0, 1) := by decide +kernel
theorem dX1_add_1 : decode cX1_add 1 = .ok (.getfield 22, 3) := by decide +kernel
theorem dX1_add_4 : decode cX1_add 4 = .ok (.aload_n 0, 1) := by decide +kernel
theorem dX1_add_5 : decode cX1_add 5 = .ok (.getfield 9, 3) := by decide +kernel
theorem dX1_add_8 : decode cX1_add 8 = .ok (.arraylength, 1) := by decide +kernel
theorem dX1_add_9 : decode cX1_add 9 = .ok (.if_icmp .ge 23, 3) := by decide +kernel
theorem dX1_add_12 : decode cX1_add 12 = .ok (.aload_n 0, 1) := by decide +kernel
theorem dX1_add_13 : decode cX1_add 13 = .ok (.getfield 9, 3) := by decide +kernel
theorem dX1_add_16 : decode cX1_add 16 = .ok (.aload_n 0, 1) := by decide +kernel
theorem dX1_add_17 : decode cX1_add 17 = .ok (.getfield 22, 3) := by decide +kernel
theorem dX1_add_20 : decode cX1_add 20 = .ok (.iload_n 1, 1) := by decide +kernel
theorem dX1_add_21 : decode cX1_add 21 = .ok (.iastore, 1) := by decide +kernel
theorem dX1_add_22 : decode cX1_add 22 = .ok (.aload_n 0, 1) := by decide +kernel
theorem dX1_add_23 : decode cX1_add 23 = .ok (.dup, 1) := by decide +kernel
theorem dX1_add_24 : decode cX1_add 24 = .ok (.getfield 22, 3) := by decide +kernel
theorem dX1_add_27 : decode cX1_add 27 = .ok (.iconst 1, 1) := by decide +kernel
theorem dX1_add_28 : decode cX1_add 28 = .ok (.iadd, 1) := by decide +kernel
theorem dX1_add_29 : decode cX1_add 29 = .ok (.putfield 22, 3) := by decide +kernel
theorem dX1_add_32 : decode cX1_add 32 = .ok (.return_, 1) := by decide +kernel
theorem dX1_sum_0 : decode cX1_sum 0 = .ok (.aload_n 0, 1) := by decide +kernel
theorem dX1_sum_1 : decode cX1_sum 1 = .ok (.getfield 15, 3) := by decide +kernel
theorem dX1_sum_4 : decode cX1_sum 4 = .ok (.iconst 0, 1) := by decide +kernel
theorem dX1_sum_5 : decode cX1_sum 5 = .ok (.iload_n 1, 1) := by decide +kernel
theorem dX1_sum_6 : decode cX1_sum 6 = .ok (.iastore, 1) := by decide +kernel
theorem dX1_sum_7 : decode cX1_sum 7 = .ok (.aload_n 0, 1) := by decide +kernel
theorem dX1_sum_8 : decode cX1_sum 8 = .ok (.getfield 15, 3) := by decide +kernel
theorem dX1_sum_11 : decode cX1_sum 11 = .ok (.iconst 1, 1) := by decide +kernel
theorem dX1_sum_12 : decode cX1_sum 12 = .ok (.iload_n 2, 1) := by decide +kernel
theorem dX1_sum_13 : decode cX1_sum 13 = .ok (.iastore, 1) := by decide +kernel
theorem dX1_sum_14 : decode cX1_sum 14 = .ok (.aload_n 0, 1) := by decide +kernel
theorem dX1_sum_15 : decode cX1_sum 15 = .ok (.getfield 15, 3) := by decide +kernel
theorem dX1_sum_18 : decode cX1_sum 18 = .ok (.iconst 2, 1) := by decide +kernel
theorem dX1_sum_19 : decode cX1_sum 19 = .ok (.iload_n 3, 1) := by decide +kernel
theorem dX1_sum_20 : decode cX1_sum 20 = .ok (.iastore, 1) := by decide +kernel
theorem dX1_sum_21 : decode cX1_sum 21 = .ok (.aload_n 0, 1) := by decide +kernel
theorem dX1_sum_22 : decode cX1_sum 22 = .ok (.getfield 15, 3) := by decide +kernel
theorem dX1_sum_25 : decode cX1_sum 25 = .ok (.iconst 3, 1) := by decide +kernel
theorem dX1_sum_26 : decode cX1_sum 26 = .ok (.iload 4, 2) := by decide +kernel
theorem dX1_sum_28 : decode cX1_sum 28 = .ok (.iastore, 1) := by decide +kernel
theorem dX1_sum_29 : decode cX1_sum 29 = .ok (.aload_n 0, 1) := by decide +kernel
theorem dX1_sum_30 : decode cX1_sum 30 = .ok (.getfield 15, 3) := by decide +kernel
theorem dX1_sum_33 : decode cX1_sum 33 = .ok (.iconst 4, 1) := by decide +kernel
theorem dX1_sum_34 : decode cX1_sum 34 = .ok (.iload 5, 2) := by decide +kernel
theorem dX1_sum_36 : decode cX1_sum 36 = .ok (.iastore, 1) := by decide +kernel
theorem dX1_sum_37 : decode cX1_sum 37 = .ok (.aload_n 0, 1) := by decide +kernel
theorem dX1_sum_38 : decode cX1_sum 38 = .ok (.getfield 15, 3) := by decide +kernel
theorem dX1_sum_41 : decode cX1_sum 41 = .ok (.iconst 5, 1) := by decide +kernel
theorem dX1_sum_42 : decode cX1_sum 42 = .ok (.iload 6, 2) := by decide +kernel
theorem dX1_sum_44 : decode cX1_sum 44 = .ok (.iastore, 1) := by decide +kernel
theorem dX1_sum_45 : decode cX1_sum 45 = .ok (.iconst 3, 1) := by decide +kernel
theorem dX1_sum_46 : decode cX1_sum 46 = .ok (.istore 7, 2) := by decide +kernel
theorem dX1_sum_48 : decode cX1_sum 48 = .ok (.iconst 0, 1) := by decide +kernel
theorem dX1_sum_49 : decode cX1_sum 49 = .ok (.istore 8, 2) := by decide +kernel
theorem dX1_sum_51 : decode cX1_sum 51 = .ok (.iconst 0, 1) := by decide +kernel
theorem dX1_sum_52 : decode cX1_sum 52 = .ok (.istore 9, 2) := by decide +kernel
theorem dX1_sum_54 : decode cX1_sum 54 = .ok (.iload 9, 2) := by decide +kernel
theorem dX1_sum_56 : decode cX1_sum 56 = .ok (.aload_n 0, 1) := by decide +kernel
theorem dX1_sum_57 : decode cX1_sum 57 = .ok (.getfield 22, 3) := by decide +kernel
theorem dX1_sum_60 : decode cX1_sum 60 = .ok (.if_icmp .ge 203, 3) := by decide +kernel
theorem dX1_sum_63 : decode cX1_sum 63 = .ok (.aload_n 0, 1) := by decide +kernel
theorem dX1_sum_64 : decode cX1_sum 64 = .ok (.getfield 9, 3) := by decide +kernel
theorem dX1_sum_67 : decode cX1_sum 67 = .ok (.iload 9, 2) := by decide +kernel
theorem dX1_sum_69 : decode cX1_sum 69 = .ok (.iaload, 1) := by decide +kernel
theorem dX1_sum_70 : decode cX1_sum 70 = .ok (.istore 10, 2) := by decide +kernel
theorem dX1_sum_72 : decode cX1_sum 72 = .ok (.iload 8, 2) := by decide +kernel
theorem dX1_sum_74 : decode cX1_sum 74 = .ok (.iconst 1, 1) := by decide +kernel
theorem dX1_sum_75 : decode cX1_sum 75 = .ok (.iand, 1) := by decide +kernel
theorem dX1_sum_76 : decode cX1_sum 76 = .ok (.istore 11, 2) := by decide +kernel
theorem dX1_sum_78 : decode cX1_sum 78 = .ok (.iload 10, 2) := by decide +kernel
theorem dX1_sum_80 : decode cX1_sum 80 = .ok (.sipush 2100, 3) := by decide +kernel
theorem dX1_sum_83 : decode cX1_sum 83 = .ok (.if_icmp .lt 23, 3) := by decide +kernel
theorem dX1_sum_86 : decode cX1_sum 86 = .ok (.iload 7, 2) := by decide +kernel
theorem dX1_sum_88 : decode cX1_sum 88 = .ok (.iload 11, 2) := by decide +kernel
theorem dX1_sum_90 : decode cX1_sum 90 = .ok (.iload 10, 2) := by decide +kernel
theorem dX1_sum_92 : decode cX1_sum 92 = .ok (.sipush 2100, 3) := by decide +kernel
theorem dX1_sum_95 : decode cX1_sum 95 = .ok (.isub, 1) := by decide +kernel
theorem dX1_sum_96 : decode cX1_sum 96 = .ok (.imul, 1) := by decide +kernel
theorem dX1_sum_97 : decode cX1_sum 97 = .ok (.isub, 1) := by decide +kernel
theorem dX1_sum_98 : decode cX1_sum 98 = .ok (.istore 7, 2) := by decide +kernel
theorem dX1_sum_100 : decode cX1_sum 100 = .ok (.iconst 0, 1) := by decide +kernel
theorem dX1_sum_101 : decode cX1_sum 101 = .ok (.istore 8, 2) := by decide +kernel
theorem dX1_sum_103 : decode cX1_sum 103 = .ok (.goto 154, 3) := by decide +kernel
theorem dX1_sum_106 : decode cX1_sum 106 = .ok (.iload 10, 2) := by decide +kernel
theorem dX1_sum_108 : decode cX1_sum 108 = .ok (.sipush 2000, 3) := by decide +kernel
theorem dX1_sum_111 : decode cX1_sum 111 = .ok (.if_icmp .lt 23, 3) := by decide +kernel
theorem dX1_sum_114 : decode cX1_sum 114 = .ok (.iload 7, 2) := by decide +kernel
theorem dX1_sum_116 : decode cX1_sum 116 = .ok (.iload 11, 2) := by decide +kernel
theorem dX1_sum_118 : decode cX1_sum 118 = .ok (.iload 10, 2) := by decide +kernel
theorem dX1_sum_120 : decode cX1_sum 120 = .ok (.sipush 2000, 3) := by decide +kernel
theorem dX1_sum_123 : decode cX1_sum 123 = .ok (.isub, 1) := by decide +kernel
theorem dX1_sum_124 : decode cX1_sum 124 = .ok (.imul, 1) := by decide +kernel
theorem dX1_sum_125 : decode cX1_sum 125 = .ok (.iadd, 1) := by decide +kernel
theorem dX1_sum_126 : decode cX1_sum 126 = .ok (.istore 7, 2) := by decide +kernel
theorem dX1_sum_128 : decode cX1_sum 128 = .ok (.iconst 0, 1) := by decide +kernel
theorem dX1_sum_129 : decode cX1_sum 129 = .ok (.istore 8, 2) := by decide +kernel
theorem dX1_sum_131 : decode cX1_sum 131 = .ok (.goto 126, 3) := by decide +kernel
theorem dX1_sum_134 : decode cX1_sum 134 = .ok (.iload 10, 2) := by decide +kernel
theorem dX1_sum_136 : decode cX1_sum 136 = .ok (.ifCond .lt 75, 3) := by decide +kernel
theorem dX1_sum_139 : decode cX1_sum 139 = .ok (.aload_n 0, 1) := by decide +kernel
theorem dX1_sum_140 : decode cX1_sum 140 = .ok (.getfield 15, 3) := by decide +kernel
theorem dX1_sum_143 : decode cX1_sum 143 = .ok (.iload 10, 2) := by decide +kernel
theorem dX1_sum_145 : decode cX1_sum 145 = .ok (.sipush 300, 3) := by decide +kernel
theorem dX1_sum_148 : decode cX1_sum 148 = .ok (.idiv, 1) := by decide +kernel
theorem dX1_sum_149 : decode cX1_sum 149 = .ok (.iaload, 1) := by decide +kernel
theorem dX1_sum_150 : decode cX1_sum 150 = .ok (.istore 12, 2) := by decide +kernel
theorem dX1_sum_152 : decode cX1_sum 152 = .ok (.iload 10, 2) := by decide +kernel
theorem dX1_sum_154 : decode cX1_sum 154 = .ok (.bipush 100, 2) := by decide +kernel
theorem dX1_sum_156 : decode cX1_sum 156 = .ok (.irem, 1) := by decide +kernel
theorem dX1_sum_157 : decode cX1_sum 157 = .ok (.istore 13, 2) := by decide +kernel
theorem dX1_sum_159 : decode cX1_sum 159 = .ok (.iload 12, 2) := by decide +kernel
theorem dX1_sum_161 : decode cX1_sum 161 = .ok (.iload 13, 2) := by decide +kernel
theorem dX1_sum_163 : decode cX1_sum 163 = .ok (.if_icmp .ge 7, 3) := by decide +kernel
theorem dX1_sum_166 : decode cX1_sum 166 = .ok (.iconst 0, 1) := by decide +kernel
theorem dX1_sum_167 : decode cX1_sum 167 = .ok (.goto 15, 3) := by decide +kernel
theorem dX1_sum_170 : decode cX1_sum 170 = .ok (.iload 12, 2) := by decide +kernel
theorem dX1_sum_172 : decode cX1_sum 172 = .ok (.iload 13, 2) := by decide +kernel
theorem dX1_sum_174 : decode cX1_sum 174 = .ok (.if_icmp .ne 7, 3) := by decide +kernel
theorem dX1_sum_177 : decode cX1_sum 177 = .ok (.iconst 1, 1) := by decide +kernel
theorem dX1_sum_178 : decode cX1_sum 178 = .ok (.goto 4, 3) := by decide +kernel
theorem dX1_sum_181 : decode cX1_sum 181 = .ok (.iconst 2, 1) := by decide +kernel
theorem dX1_sum_182 : decode cX1_sum 182 = .ok (.istore 14, 2) := by decide +kernel
theorem dX1_sum_184 : decode cX1_sum 184 = .ok (.iload 8, 2) := by decide +kernel
theorem dX1_sum_186 : decode cX1_sum 186 = .ok (.iconst 1, 1) := by decide +kernel
theorem dX1_sum_187 : decode cX1_sum 187 = .ok (.ishl, 1) := by decide +kernel
theorem dX1_sum_188 : decode cX1_sum 188 = .ok (.iload 14, 2) := by decide +kernel
theorem dX1_sum_190 : decode cX1_sum 190 = .ok (.iload 10, 2) := by decide +kernel
theorem dX1_sum_192 : decode cX1_sum 192 = .ok (.bipush 100, 2) := by decide +kernel
theorem dX1_sum_194 : decode cX1_sum 194 = .ok (.idiv, 1) := by decide +kernel
theorem dX1_sum_195 : decode cX1_sum 195 = .ok (.iconst 3, 1) := by decide +kernel
theorem dX1_sum_196 : decode cX1_sum 196 = .ok (.irem, 1) := by decide +kernel
theorem dX1_sum_197 : decode cX1_sum 197 = .ok (.if_icmp .ne 7, 3) := by decide +kernel
theorem dX1_sum_200 : decode cX1_sum 200 = .ok (.iconst 1, 1) := by decide +kernel
theorem dX1_sum_201 : decode cX1_sum 201 = .ok (.goto 4, 3) := by decide +kernel
theorem dX1_sum_204 : decode cX1_sum 204 = .ok (.iconst 0, 1) := by decide +kernel
theorem dX1_sum_205 : decode cX1_sum 205 = .ok (.ior, 1) := by decide +kernel
theorem dX1_sum_206 : decode cX1_sum 206 = .ok (.istore 8, 2) := by decide +kernel
theorem dX1_sum_208 : decode cX1_sum 208 = .ok (.goto 49, 3) := by decide +kernel
theorem dX1_sum_211 : decode cX1_sum 211 = .ok (.iload 10, 2) := by decide +kernel
theorem dX1_sum_213 : decode cX1_sum 213 = .ok (.bipush (-3), 2) := by decide +kernel
theorem dX1_sum_215 : decode cX1_sum 215 = .ok (.if_icmp .ne 12, 3) := by decide +kernel
theorem dX1_sum_218 : decode cX1_sum 218 = .ok (.iload 8, 2) := by decide +kernel
theorem dX1_sum_220 : decode cX1_sum 220 = .ok (.iconst 1, 1) := by decide +kernel
theorem dX1_sum_221 : decode cX1_sum 221 = .ok (.ixor, 1) := by decide +kernel
theorem dX1_sum_222 : decode cX1_sum 222 = .ok (.istore 8, 2) := by decide +kernel
theorem dX1_sum_224 : decode cX1_sum 224 = .ok (.goto 33, 3) := by decide +kernel
theorem dX1_sum_227 : decode cX1_sum 227 = .ok (.iload 10, 2) := by decide +kernel
theorem dX1_sum_229 : decode cX1_sum 229 = .ok (.iconst (-1), 1) := by decide +kernel
theorem dX1_sum_230 : decode cX1_sum 230 = .ok (.if_icmp .ne 18, 3) := by decide +kernel
theorem dX1_sum_233 : decode cX1_sum 233 = .ok (.iload 8, 2) := by decide +kernel
theorem dX1_sum_235 : decode cX1_sum 235 = .ok (.iconst 1, 1) := by decide +kernel
theorem dX1_sum_236 : decode cX1_sum 236 = .ok (.ishr, 1) := by decide +kernel
theorem dX1_sum_237 : decode cX1_sum 237 = .ok (.iload 11, 2) := by decide +kernel
theorem dX1_sum_239 : decode cX1_sum 239 = .ok (.bipush (-2), 2) := by decide +kernel
theorem dX1_sum_241 : decode cX1_sum 241 = .ok (.ior, 1) := by decide +kernel
theorem dX1_sum_242 : decode cX1_sum 242 = .ok (.iand, 1) := by decide +kernel
theorem dX1_sum_243 : decode cX1_sum 243 = .ok (.istore 8, 2) := by decide +kernel
theorem dX1_sum_245 : decode cX1_sum 245 = .ok (.goto 12, 3) := by decide +kernel
theorem dX1_sum_248 : decode cX1_sum 248 = .ok (.iload 8, 2) := by decide +kernel
theorem dX1_sum_250 : decode cX1_sum 250 = .ok (.iconst 1, 1) := by decide +kernel
theorem dX1_sum_251 : decode cX1_sum 251 = .ok (.ishr, 1) := by decide +kernel
theorem dX1_sum_252 : decode cX1_sum 252 = .ok (.iload 11, 2) := by decide +kernel
theorem dX1_sum_254 : decode cX1_sum 254 = .ok (.ior, 1) := by decide +kernel
theorem dX1_sum_255 : decode cX1_sum 255 = .ok (.istore 8, 2) := by decide +kernel
theorem dX1_sum_257 : decode cX1_sum 257 = .ok (.iinc 9 1, 3) := by decide +kernel
theorem dX1_sum_260 : decode cX1_sum 260 = .ok (.goto (-206), 3) := by decide +kernel
theorem dX1_sum_263 : decode cX1_sum 263 = .ok (.iload 7, 2) := by decide +kernel
theorem dX1_sum_265 : decode cX1_sum 265 = .ok (.ireturn, 1) := by decide +kernel
theorem dX2_init_0 : decode cX2_init 0 = .ok (.aload_n 0, 1) := by decide +kernel
theorem dX2_init_1 : decode cX2_init 1 = .ok (.invokespecial 3, 3) := by decide +kernel
theorem dX2_init_4 : decode cX2_init 4 = .ok (.aload_n 0, 1) := by decide +kernel
theorem dX2_init_5 : decode cX2_init 5 = .ok (.bipush (-5), 2) := by decide +kernel
theorem dX2_init_7 : decode cX2_init 7 = .ok (.putfield 9, 3) := by decide +kernel
theorem dX2_init_10 : decode cX2_init 10 = .ok (.aload_n 0, 1) := by decide +kernel
theorem dX2_init_11 : decode cX2_init 11 = .ok (.iconst 4, 1) := by decide +kernel
theorem dX2_init_12 : decode cX2_init 12 = .ok (.newarray .int, 2) := by decide +kernel
theorem dX2_init_14 : decode cX2_init 14 = .ok (.putfield 15, 3) := by decide +kernel
theorem dX2_init_17 : decode cX2_init 17 = .ok (.return_, 1) := by decide +kernel
theorem dX2_become_0 : decode cX2_become 0 = .ok (.aload_n 0, 1) := by decide +kernel
theorem dX2_become_1 : decode cX2_become 1 = .ok (.iload_n 1, 1) := by decide +kernel
theorem dX2_become_2 : decode cX2_become 2 = .ok (.putfield 19, 3) := by decide +kernel
theorem dX2_become_5 : decode cX2_become 5 = .ok (.aload_n 0, 1) := by decide +kernel
theorem dX2_become_6 : decode cX2_become 6 = .ok (.iload_n 2, 1) := by decide +kernel
theorem dX2_become_7 : decode cX2_become 7 = .ok (.putfield 22, 3) := by decide +kernel
theorem dX2_become_10 : decode cX2_become 10 = .ok (.aload_n 0, 1) := by decide +kernel
theorem dX2_become_11 : decode cX2_become 11 = .ok (.iload_n 3, 1) := by decide +kernel
theorem dX2_become_12 : decode cX2_become 12 = .ok (.putfield 25, 3) := by decide +kernel
theorem dX2_become_15 : decode cX2_become 15 = .ok (.aload_n 0, 1) := by decide +kernel
theorem dX2_become_16 : decode cX2_become 16 = .ok (.iload_n 3, 1) := by decide +kernel
theorem dX2_become_17 : decode cX2_become 17 = .ok (.putfield 28, 3) := by decide +kernel
theorem dX2_become_20 : decode cX2_become 20 = .ok (.aload_n 0, 1) := by decide +kernel
theorem dX2_become_21 : decode cX2_become 21 = .ok (.bipush (-5), 2) := by decide +kernel
theorem dX2_become_23 : decode cX2_become 23 = .ok (.putfield 9, 3) := by decide +kernel
theorem dX2_become_26 : decode cX2_become 26 = .ok (.aload_n 0, 1) := by decide +kernel
theorem dX2_become_27 : decode cX2_become 27 = .ok (.iconst 0, 1) := by decide +kernel
theorem dX2_become_28 : decode cX2_become 28 = .ok (.putfield 31, 3) := by decide +kernel
theorem dX2_become_31 : decode cX2_become 31 = .ok (.aload_n 0, 1) := by decide +kernel
theorem dX2_become_32 : decode cX2_become 32 = .ok (.getfield 15, 3) := by decide +kernel
theorem dX2_become_35 : decode cX2_become 35 = .ok (.iconst 0, 1) := by decide +kernel
theorem dX2_become_36 : decode cX2_become 36 = .ok (.invokestatic 34, 3) := by decide +kernel
theorem dX2_become_39 : decode cX2_become 39 = .ok (.return_, 1) := by decide +kernel
theorem dX2_copyFrom_0 : decode cX2_copyFrom 0 = .ok (.aload_n 0, 1) := by decide +kernel
theorem dX2_copyFrom_1 : decode cX2_copyFrom 1 = .ok (.aload_n 1, 1) := by decide +kernel
theorem dX2_copyFrom_2 : decode cX2_copyFrom 2 = .ok (.getfield 19, 3) := by decide +kernel
theorem dX2_copyFrom_5 : decode cX2_copyFrom 5 = .ok (.putfield 19, 3) := by decide +kernel
theorem dX2_copyFrom_8 : decode cX2_copyFrom 8 = .ok (.aload_n 0, 1) := by decide +kernel
theorem dX2_copyFrom_9 : decode cX2_copyFrom 9 = .ok (.aload_n 1, 1) := by decide +kernel
theorem dX2_copyFrom_10 : decode cX2_copyFrom 10 = .ok (.getfield 22, 3) := by decide +kernel
theorem dX2_copyFrom_13 : decode cX2_copyFrom 13 = .ok (.putfield 22, 3) := by decide +kernel
theorem dX2_copyFrom_16 : decode cX2_copyFrom 16 = .ok (.aload_n 0, 1) := by decide +kernel
theorem dX2_copyFrom_17 : decode cX2_copyFrom 17 = .ok (.aload_n 1, 1) := by decide +kernel
theorem dX2_copyFrom_18 : decode cX2_copyFrom 18 = .ok (.getfield 25, 3) := by decide +kernel
theorem dX2_copyFrom_21 : decode cX2_copyFrom 21 = .ok (.putfield 25, 3) := by decide +kernel
theorem dX2_copyFrom_24 : decode cX2_copyFrom 24 = .ok (.aload_n 0, 1) := by decide +kernel
theorem dX2_copyFrom_25 : decode cX2_copyFrom 25 = .ok (.aload_n 1, 1) := by decide +kernel
theorem dX2_copyFrom_26 : decode cX2_copyFrom 26 = .ok (.getfield 28, 3) := by decide +kernel
theorem dX2_copyFrom_29 : decode cX2_copyFrom 29 = .ok (.putfield 28, 3) := by decide +kernel
theorem dX2_copyFrom_32 : decode cX2_copyFrom 32 = .ok (.aload_n 0, 1) := by decide +kernel
theorem dX2_copyFrom_33 : decode cX2_copyFrom 33 = .ok (.aload_n 1, 1) := by decide +kernel
theorem dX2_copyFrom_34 : decode cX2_copyFrom 34 = .ok (.getfield 9, 3) := by decide +kernel
theorem dX2_copyFrom_37 : decode cX2_copyFrom 37 = .ok (.putfield 9, 3) := by decide +kernel
theorem dX2_copyFrom_40 : decode cX2_copyFrom 40 = .ok (.aload_n 0, 1) := by decide +kernel
theorem dX2_copyFrom_41 : decode cX2_copyFrom 41 = .ok (.aload_n 1, 1) := by decide +kernel
theorem dX2_copyFrom_42 : decode cX2_copyFrom 42 = .ok (.getfield 31, 3) := by decide +kernel
theorem dX2_copyFrom_45 : decode cX2_copyFrom 45 = .ok (.putfield 31, 3) := by decide +kernel
theorem dX2_copyFrom_48 : decode cX2_copyFrom 48 = .ok (.aload_n 1, 1) := by decide +kernel
theorem dX2_copyFrom_49 : decode cX2_copyFrom 49 = .ok (.getfield 15, 3) := by decide +kernel
theorem dX2_copyFrom_52 : decode cX2_copyFrom 52 = .ok (.iconst 0, 1) := by decide +kernel
theorem dX2_copyFrom_53 : decode cX2_copyFrom 53 = .ok (.aload_n 0, 1) := by decide +kernel
theorem dX2_copyFrom_54 : decode cX2_copyFrom 54 = .ok (.getfield 15, 3) := by decide +kernel
theorem dX2_copyFrom_57 : decode cX2_copyFrom 57 = .ok (.iconst 0, 1) := by decide +kernel
theorem dX2_copyFrom_58 : decode cX2_copyFrom 58 = .ok (.iconst 4, 1) := by decide +kernel
theorem dX2_copyFrom_59 : decode cX2_copyFrom 59 = .ok (.invokestatic 40, 3) := by decide +kernel
theorem dX2_copyFrom_62 : decode cX2_copyFrom 62 = .ok (.return_, 1) := by decide +kernel
theorem dX2_isDone_0 : decode cX2_isDone 0 = .ok (.aload_n 0, 1) := by decide +kernel
theorem dX2_isDone_1 : decode cX2_isDone 1 = .ok (.getfield 31, 3) := by decide +kernel
theorem dX2_isDone_4 : decode cX2_isDone 4 = .ok (.ifCond .ne 18, 3) := by decide +kernel
theorem dX2_isDone_7 : decode cX2_isDone 7 = .ok (.aload_n 0, 1) := by decide +kernel
theorem dX2_isDone_8 : decode cX2_isDone 8 = .ok (.getfield 25, 3) := by decide +kernel
theorem dX2_isDone_11 : decode cX2_isDone 11 = .ok (.aload_n 0, 1) := by decide +kernel
theorem dX2_isDone_12 : decode cX2_isDone 12 = .ok (.getfield 9, 3) := by decide +kernel
theorem dX2_isDone_15 : decode cX2_isDone 15 = .ok (.if_icmp .ne 7, 3) := by decide +kernel
theorem dX2_isDone_18 : decode cX2_isDone 18 = .ok (.iconst 1, 1) := by decide +kernel
theorem dX2_isDone_19 : decode cX2_isDone 19 = .ok (.goto 4, 3) := by decide +kernel
theorem dX2_isDone_22 : decode cX2_isDone 22 = .ok (.iconst 0, 1) := by decide +kernel
theorem dX2_isDone_23 : decode cX2_isDone 23 = .ok (.ireturn, 1) := by decide +kernel
theorem dX3_init_0 : decode cX3_init 0 = .ok (.aload_n 0, 1) := by decide +kernel
theorem dX3_init_1 : decode cX3_init 1 = .ok (.invokespecial 3, 3) := by decide +kernel
theorem dX3_init_4 : decode cX3_init 4 = .ok (.aload_n 0, 1) := by decide +kernel
theorem dX3_init_5 : decode cX3_init 5 = .ok (.iload_n 1, 1) := by decide +kernel
theorem dX3_init_6 : decode cX3_init 6 = .ok (.newarray .int, 2) := by decide +kernel
theorem dX3_init_8 : decode cX3_init 8 = .ok (.putfield 9, 3) := by decide +kernel
theorem dX3_init_11 : decode cX3_init 11 = .ok (.aload_n 0, 1) := by decide +kernel
theorem dX3_init_12 : decode cX3_init 12 = .ok (.iload_n 1, 1) := by decide +kernel
theorem dX3_init_13 : decode cX3_init 13 = .ok (.newarray .int, 2) := by decide +kernel
theorem dX3_init_15 : decode cX3_init 15 = .ok (.putfield 15, 3) := by decide +kernel
theorem dX3_init_18 : decode cX3_init 18 = .ok (.aload_n 0, 1) := by decide +kernel
theorem dX3_init_19 : decode cX3_init 19 = .ok (.iload_n 1, 1) := by decide +kernel
theorem dX3_init_20 : decode cX3_init 20 = .ok (.newarray .int, 2) := by decide +kernel
theorem dX3_init_22 : decode cX3_init 22 = .ok (.putfield 18, 3) := by decide +kernel
theorem dX3_init_25 : decode cX3_init 25 = .ok (.return_, 1) := by decide +kernel
theorem dX3_empty_0 : decode cX3_empty 0 = .ok (.aload_n 0, 1) := by decide +kernel
theorem dX3_empty_1 : decode cX3_empty 1 = .ok (.iconst 0, 1) := by decide +kernel
theorem dX3_empty_2 : decode cX3_empty 2 = .ok (.putfield 21, 3) := by decide +kernel
theorem dX3_empty_5 : decode cX3_empty 5 = .ok (.iconst 0, 1) := by decide +kernel
theorem dX3_empty_6 : decode cX3_empty 6 = .ok (.ireturn, 1) := by decide +kernel
theorem dX3_add_0 : decode cX3_add 0 = .ok (.aload_n 0, 1) := by decide +kernel
theorem dX3_add_1 : decode cX3_add 1 = .ok (.getfield 21, 3) := by decide +kernel
theorem dX3_add_4 : decode cX3_add 4 = .ok (.aload_n 0, 1) := by decide +kernel
theorem dX3_add_5 : decode cX3_add 5 = .ok (.getfield 9, 3) := by decide +kernel
theorem dX3_add_8 : decode cX3_add 8 = .ok (.arraylength, 1) := by decide +kernel
theorem dX3_add_9 : decode cX3_add 9 = .ok (.if_icmp .lt 6, 3) := by decide +kernel
theorem dX3_add_12 : decode cX3_add 12 = .ok (.bipush (-4), 2) := by decide +kernel
theorem dX3_add_14 : decode cX3_add 14 = .ok (.ireturn, 1) := by decide +kernel
theorem dX3_add_15 : decode cX3_add 15 = .ok (.aload_n 0, 1) := by decide +kernel
theorem dX3_add_16 : decode cX3_add 16 = .ok (.getfield 9, 3) := by decide +kernel
theorem dX3_add_19 : decode cX3_add 19 = .ok (.aload_n 0, 1) := by decide +kernel
theorem dX3_add_20 : decode cX3_add 20 = .ok (.getfield 21, 3) := by decide +kernel
theorem dX3_add_23 : decode cX3_add 23 = .ok (.iload_n 1, 1) := by decide +kernel
theorem dX3_add_24 : decode cX3_add 24 = .ok (.iastore, 1) := by decide +kernel
theorem dX3_add_25 : decode cX3_add 25 = .ok (.aload_n 0, 1) := by decide +kernel
theorem dX3_add_26 : decode cX3_add 26 = .ok (.getfield 15, 3) := by decide +kernel
theorem dX3_add_29 : decode cX3_add 29 = .ok (.aload_n 0, 1) := by decide +kernel
theorem dX3_add_30 : decode cX3_add 30 = .ok (.getfield 21, 3) := by decide +kernel
theorem dX3_add_33 : decode cX3_add 33 = .ok (.iload_n 2, 1) := by decide +kernel
theorem dX3_add_34 : decode cX3_add 34 = .ok (.iastore, 1) := by decide +kernel
theorem dX3_add_35 : decode cX3_add 35 = .ok (.aload_n 0, 1) := by decide +kernel
theorem dX3_add_36 : decode cX3_add 36 = .ok (.getfield 18, 3) := by decide +kernel
theorem dX3_add_39 : decode cX3_add 39 = .ok (.aload_n 0, 1) := by decide +kernel
theorem dX3_add_40 : decode cX3_add 40 = .ok (.getfield 21, 3) := by decide +kernel
theorem dX3_add_43 : decode cX3_add 43 = .ok (.iload_n 3, 1) := by decide +kernel
theorem dX3_add_44 : decode cX3_add 44 = .ok (.iastore, 1) := by decide +kernel
theorem dX3_add_45 : decode cX3_add 45 = .ok (.aload_n 0, 1) := by decide +kernel
theorem dX3_add_46 : decode cX3_add 46 = .ok (.dup, 1) := by decide +kernel
theorem dX3_add_47 : decode cX3_add 47 = .ok (.getfield 21, 3) := by decide +kernel
theorem dX3_add_50 : decode cX3_add 50 = .ok (.iconst 1, 1) := by decide +kernel
theorem dX3_add_51 : decode cX3_add 51 = .ok (.iadd, 1) := by decide +kernel
theorem dX3_add_52 : decode cX3_add 52 = .ok (.putfield 21, 3) := by decide +kernel
theorem dX3_add_55 : decode cX3_add 55 = .ok (.aload_n 0, 1) := by decide +kernel
theorem dX3_add_56 : decode cX3_add 56 = .ok (.getfield 21, 3) := by decide +kernel
theorem dX3_add_59 : decode cX3_add 59 = .ok (.ireturn, 1) := by decide +kernel
theorem dX3_copyFrom_0 : decode cX3_copyFrom 0 = .ok (.aload_n 0, 1) := by decide +kernel
theorem dX3_copyFrom_1 : decode cX3_copyFrom 1 = .ok (.aload_n 1, 1) := by decide +kernel
theorem dX3_copyFrom_2 : decode cX3_copyFrom 2 = .ok (.getfield 21, 3) := by decide +kernel
theorem dX3_copyFrom_5 : decode cX3_copyFrom 5 = .ok (.aload_n 0, 1) := by decide +kernel
theorem dX3_copyFrom_6 : decode cX3_copyFrom 6 = .ok (.getfield 9, 3) := by decide +kernel
theorem dX3_copyFrom_9 : decode cX3_copyFrom 9 = .ok (.arraylength, 1) := by decide +kernel
theorem dX3_copyFrom_10 : decode cX3_copyFrom 10 = .ok (.invokestatic 25, 3) := by decide +kernel
theorem dX3_copyFrom_13 : decode cX3_copyFrom 13 = .ok (.putfield 21, 3) := by decide +kernel
theorem dX3_copyFrom_16 : decode cX3_copyFrom 16 = .ok (.aload_n 1, 1) := by decide +kernel
theorem dX3_copyFrom_17 : decode cX3_copyFrom 17 = .ok (.getfield 9, 3) := by decide +kernel
theorem dX3_copyFrom_20 : decode cX3_copyFrom 20 = .ok (.iconst 0, 1) := by decide +kernel
theorem dX3_copyFrom_21 : decode cX3_copyFrom 21 = .ok (.aload_n 0, 1) := by decide +kernel
theorem dX3_copyFrom_22 : decode cX3_copyFrom 22 = .ok (.getfield 9, 3) := by decide +kernel
theorem dX3_copyFrom_25 : decode cX3_copyFrom 25 = .ok (.iconst 0, 1) := by decide +kernel
theorem dX3_copyFrom_26 : decode cX3_copyFrom 26 = .ok (.aload_n 0, 1) := by decide +kernel
theorem dX3_copyFrom_27 : decode cX3_copyFrom 27 = .ok (.getfield 21, 3) := by decide +kernel
theorem dX3_copyFrom_30 : decode cX3_copyFrom 30 = .ok (.invokestatic 31, 3) := by decide +kernel
theorem dX3_copyFrom_33 : decode cX3_copyFrom 33 = .ok (.aload_n 1, 1) := by decide +kernel
theorem dX3_copyFrom_34 : decode cX3_copyFrom 34 = .ok (.getfield 15, 3) := by decide +kernel
theorem dX3_copyFrom_37 : decode cX3_copyFrom 37 = .ok (.iconst 0, 1) := by decide +kernel
theorem dX3_copyFrom_38 : decode cX3_copyFrom 38 = .ok (.aload_n 0, 1) := by decide +kernel
theorem dX3_copyFrom_39 : decode cX3_copyFrom 39 = .ok (.getfield 15, 3) := by decide +kernel
theorem dX3_copyFrom_42 : decode cX3_copyFrom 42 = .ok (.iconst 0, 1) := by decide +kernel
theorem dX3_copyFrom_43 : decode cX3_copyFrom 43 = .ok (.aload_n 0, 1) := by decide +kernel
theorem dX3_copyFrom_44 : decode cX3_copyFrom 44 = .ok (.getfield 21, 3) := by decide +kernel
theorem dX3_copyFrom_47 : decode cX3_copyFrom 47 = .ok (.invokestatic 31, 3) := by decide +kernel
theorem dX3_copyFrom_50 : decode cX3_copyFrom 50 = .ok (.aload_n 1, 1) := by decide +kernel
theorem dX3_copyFrom_51 : decode cX3_copyFrom 51 = .ok (.getfield 18, 3) := by decide +kernel
theorem dX3_copyFrom_54 : decode cX3_copyFrom 54 = .ok (.iconst 0, 1) := by decide +kernel
theorem dX3_copyFrom_55 : decode cX3_copyFrom 55 = .ok (.aload_n 0, 1) := by decide +kernel
theorem dX3_copyFrom_56 : decode cX3_copyFrom 56 = .ok (.getfield 18, 3) := by decide +kernel
theorem dX3_copyFrom_59 : decode cX3_copyFrom 59 = .ok (.iconst 0, 1) := by decide +kernel
theorem dX3_copyFrom_60 : decode cX3_copyFrom 60 = .ok (.aload_n 0, 1) := by decide +kernel
theorem dX3_copyFrom_61 : decode cX3_copyFrom 61 = .ok (.getfield 21, 3) := by decide +kernel
theorem dX3_copyFrom_64 : decode cX3_copyFrom 64 = .ok (.invokestatic 31, 3) := by decide +kernel
theorem dX3_copyFrom_67 : decode cX3_copyFrom 67 = .ok (.return_, 1) := by decide +kernel
theorem dX3_lastHour_0 : decode cX3_lastHour 0 = .ok (.iconst (-1), 1) := by decide +kernel
theorem dX3_lastHour_1 : decode cX3_lastHour 1 = .ok (.istore_n 2, 1) := by decide +kernel
theorem dX3_lastHour_2 : decode cX3_lastHour 2 = .ok (.iconst 0, 1) := by decide +kernel
theorem dX3_lastHour_3 : decode cX3_lastHour 3 = .ok (.istore_n 3, 1) := by decide +kernel
theorem dX3_lastHour_4 : decode cX3_lastHour 4 = .ok (.iload_n 3, 1) := by decide +kernel
theorem dX3_lastHour_5 : decode cX3_lastHour 5 = .ok (.aload_n 0, 1) := by decide +kernel
theorem dX3_lastHour_6 : decode cX3_lastHour 6 = .ok (.getfield 21, 3) := by decide +kernel
theorem dX3_lastHour_9 : decode cX3_lastHour 9 = .ok (.if_icmp .ge 30, 3) := by decide +kernel
theorem dX3_lastHour_12 : decode cX3_lastHour 12 = .ok (.aload_n 0, 1) := by decide +kernel
theorem dX3_lastHour_13 : decode cX3_lastHour 13 = .ok (.getfield 9, 3) := by decide +kernel
theorem dX3_lastHour_16 : decode cX3_lastHour 16 = .ok (.iload_n 3, 1) := by decide +kernel
theorem dX3_lastHour_17 : decode cX3_lastHour 17 = .ok (.iaload, 1) := by decide +kernel
theorem dX3_lastHour_18 : decode cX3_lastHour 18 = .ok (.iload_n 1, 1) := by decide +kernel
theorem dX3_lastHour_19 : decode cX3_lastHour 19 = .ok (.if_icmp .ne 14, 3) := by decide +kernel
theorem dX3_lastHour_22 : decode cX3_lastHour 22 = .ok (.iload_n 2, 1) := by decide +kernel
theorem dX3_lastHour_23 : decode cX3_lastHour 23 = .ok (.aload_n 0, 1) := by decide +kernel
theorem dX3_lastHour_24 : decode cX3_lastHour 24 = .ok (.getfield 18, 3) := by decide +kernel
theorem dX3_lastHour_27 : decode cX3_lastHour 27 = .ok (.iload_n 3, 1) := by decide +kernel
theorem dX3_lastHour_28 : decode cX3_lastHour 28 = .ok (.iaload, 1) := by decide +kernel
theorem dX3_lastHour_29 : decode cX3_lastHour 29 = .ok (.invokestatic 37, 3) := by decide +kernel
theorem dX3_lastHour_32 : decode cX3_lastHour 32 = .ok (.istore_n 2, 1) := by decide +kernel
theorem dX3_lastHour_33 : decode cX3_lastHour 33 = .ok (.iinc 3 1, 3) := by decide +kernel
theorem dX3_lastHour_36 : decode cX3_lastHour 36 = .ok (.goto (-32), 3) := by decide +kernel
theorem dX3_lastHour_39 : decode cX3_lastHour 39 = .ok (.iload_n 2, 1) := by decide +kernel
theorem dX3_lastHour_40 : decode cX3_lastHour 40 = .ok (.ireturn, 1) := by decide +kernel
theorem dX3_agrees_0 : decode cX3_agrees 0 = .ok (.iconst 0, 1) := by decide +kernel
theorem dX3_agrees_1 : decode cX3_agrees 1 = .ok (.istore 4, 2) := by decide +kernel
theorem dX3_agrees_3 : decode cX3_agrees 3 = .ok (.iload 4, 2) := by decide +kernel
theorem dX3_agrees_5 : decode cX3_agrees 5 = .ok (.aload_n 0, 1) := by decide +kernel
theorem dX3_agrees_6 : decode cX3_agrees 6 = .ok (.getfield 21, 3) := by decide +kernel
theorem dX3_agrees_9 : decode cX3_agrees 9 = .ok (.if_icmp .ge 44, 3) := by decide +kernel
theorem dX3_agrees_12 : decode cX3_agrees 12 = .ok (.aload_n 0, 1) := by decide +kernel
theorem dX3_agrees_13 : decode cX3_agrees 13 = .ok (.getfield 9, 3) := by decide +kernel
theorem dX3_agrees_16 : decode cX3_agrees 16 = .ok (.iload 4, 2) := by decide +kernel
theorem dX3_agrees_18 : decode cX3_agrees 18 = .ok (.iaload, 1) := by decide +kernel
theorem dX3_agrees_19 : decode cX3_agrees 19 = .ok (.iload_n 1, 1) := by decide +kernel
theorem dX3_agrees_20 : decode cX3_agrees 20 = .ok (.if_icmp .ne 27, 3) := by decide +kernel
theorem dX3_agrees_23 : decode cX3_agrees 23 = .ok (.aload_n 0, 1) := by decide +kernel
theorem dX3_agrees_24 : decode cX3_agrees 24 = .ok (.getfield 18, 3) := by decide +kernel
theorem dX3_agrees_27 : decode cX3_agrees 27 = .ok (.iload 4, 2) := by decide +kernel
theorem dX3_agrees_29 : decode cX3_agrees 29 = .ok (.iaload, 1) := by decide +kernel
theorem dX3_agrees_30 : decode cX3_agrees 30 = .ok (.iload_n 3, 1) := by decide +kernel
theorem dX3_agrees_31 : decode cX3_agrees 31 = .ok (.if_icmp .ne 16, 3) := by decide +kernel
theorem dX3_agrees_34 : decode cX3_agrees 34 = .ok (.aload_n 0, 1) := by decide +kernel
theorem dX3_agrees_35 : decode cX3_agrees 35 = .ok (.getfield 15, 3) := by decide +kernel
theorem dX3_agrees_38 : decode cX3_agrees 38 = .ok (.iload 4, 2) := by decide +kernel
theorem dX3_agrees_40 : decode cX3_agrees 40 = .ok (.iaload, 1) := by decide +kernel
theorem dX3_agrees_41 : decode cX3_agrees 41 = .ok (.iload_n 2, 1) := by decide +kernel
theorem dX3_agrees_42 : decode cX3_agrees 42 = .ok (.if_icmp .eq 5, 3) := by decide +kernel
theorem dX3_agrees_45 : decode cX3_agrees 45 = .ok (.iconst 0, 1) := by decide +kernel
theorem dX3_agrees_46 : decode cX3_agrees 46 = .ok (.ireturn, 1) := by decide +kernel
theorem dX3_agrees_47 : decode cX3_agrees 47 = .ok (.iinc 4 1, 3) := by decide +kernel
theorem dX3_agrees_50 : decode cX3_agrees 50 = .ok (.goto (-47), 3) := by decide +kernel
theorem dX3_agrees_53 : decode cX3_agrees 53 = .ok (.iconst 1, 1) := by decide +kernel
theorem dX3_agrees_54 : decode cX3_agrees 54 = .ok (.ireturn, 1) := by decide +kernel
theorem dX4_init_0 : decode cX4_init 0 = .ok (.aload_n 0, 1) := by decide +kernel
theorem dX4_init_1 : decode cX4_init 1 = .ok (.invokespecial 3, 3) := by decide +kernel
theorem dX4_init_4 : decode cX4_init 4 = .ok (.aload_n 0, 1) := by decide +kernel
theorem dX4_init_5 : decode cX4_init 5 = .ok (.iconst (-1), 1) := by decide +kernel
theorem dX4_init_6 : decode cX4_init 6 = .ok (.putfield 9, 3) := by decide +kernel
theorem dX4_init_9 : decode cX4_init 9 = .ok (.aload_n 0, 1) := by decide +kernel
theorem dX4_init_10 : decode cX4_init 10 = .ok (.bipush 60, 2) := by decide +kernel
theorem dX4_init_12 : decode cX4_init 12 = .ok (.newarray .long, 2) := by decide +kernel
theorem dX4_init_14 : decode cX4_init 14 = .ok (.putfield 15, 3) := by decide +kernel
theorem dX4_init_17 : decode cX4_init 17 = .ok (.return_, 1) := by decide +kernel
theorem dX4_become_0 : decode cX4_become 0 = .ok (.aload_n 0, 1) := by decide +kernel
theorem dX4_become_1 : decode cX4_become 1 = .ok (.iload_n 1, 1) := by decide +kernel
theorem dX4_become_2 : decode cX4_become 2 = .ok (.putfield 9, 3) := by decide +kernel
theorem dX4_become_5 : decode cX4_become 5 = .ok (.aload_n 0, 1) := by decide +kernel
theorem dX4_become_6 : decode cX4_become 6 = .ok (.iload_n 2, 1) := by decide +kernel
theorem dX4_become_7 : decode cX4_become 7 = .ok (.putfield 19, 3) := by decide +kernel
theorem dX4_become_10 : decode cX4_become 10 = .ok (.aload_n 0, 1) := by decide +kernel
theorem dX4_become_11 : decode cX4_become 11 = .ok (.getfield 15, 3) := by decide +kernel
theorem dX4_become_14 : decode cX4_become 14 = .ok (.lconst 0, 1) := by decide +kernel
theorem dX4_become_15 : decode cX4_become 15 = .ok (.invokestatic 22, 3) := by decide +kernel
theorem dX4_become_18 : decode cX4_become 18 = .ok (.return_, 1) := by decide +kernel
theorem dX4_hasPlace_0 : decode cX4_hasPlace 0 = .ok (.iload_n 1, 1) := by decide +kernel
theorem dX4_hasPlace_1 : decode cX4_hasPlace 1 = .ok (.ifCond .lt 15, 3) := by decide +kernel
theorem dX4_hasPlace_4 : decode cX4_hasPlace 4 = .ok (.iload_n 1, 1) := by decide +kernel
theorem dX4_hasPlace_5 : decode cX4_hasPlace 5 = .ok (.aload_n 0, 1) := by decide +kernel
theorem dX4_hasPlace_6 : decode cX4_hasPlace 6 = .ok (.getfield 19, 3) := by decide +kernel
theorem dX4_hasPlace_9 : decode cX4_hasPlace 9 = .ok (.if_icmp .ge 7, 3) := by decide +kernel
theorem dX4_hasPlace_12 : decode cX4_hasPlace 12 = .ok (.iconst 1, 1) := by decide +kernel
theorem dX4_hasPlace_13 : decode cX4_hasPlace 13 = .ok (.goto 4, 3) := by decide +kernel
theorem dX4_hasPlace_16 : decode cX4_hasPlace 16 = .ok (.iconst 0, 1) := by decide +kernel
theorem dX4_hasPlace_17 : decode cX4_hasPlace 17 = .ok (.ireturn, 1) := by decide +kernel
theorem dX4_hasPart_0 : decode cX4_hasPart 0 = .ok (.iload_n 1, 1) := by decide +kernel
theorem dX4_hasPart_1 : decode cX4_hasPart 1 = .ok (.ifCond .lt 29, 3) := by decide +kernel
theorem dX4_hasPart_4 : decode cX4_hasPart 4 = .ok (.iload_n 2, 1) := by decide +kernel
theorem dX4_hasPart_5 : decode cX4_hasPart 5 = .ok (.ifCond .lt 25, 3) := by decide +kernel
theorem dX4_hasPart_8 : decode cX4_hasPart 8 = .ok (.iload_n 1, 1) := by decide +kernel
theorem dX4_hasPart_9 : decode cX4_hasPart 9 = .ok (.aload_n 0, 1) := by decide +kernel
theorem dX4_hasPart_10 : decode cX4_hasPart 10 = .ok (.getfield 19, 3) := by decide +kernel
theorem dX4_hasPart_13 : decode cX4_hasPart 13 = .ok (.if_icmp .gt 17, 3) := by decide +kernel
theorem dX4_hasPart_16 : decode cX4_hasPart 16 = .ok (.iload_n 2, 1) := by decide +kernel
theorem dX4_hasPart_17 : decode cX4_hasPart 17 = .ok (.aload_n 0, 1) := by decide +kernel
theorem dX4_hasPart_18 : decode cX4_hasPart 18 = .ok (.getfield 19, 3) := by decide +kernel
theorem dX4_hasPart_21 : decode cX4_hasPart 21 = .ok (.iload_n 1, 1) := by decide +kernel
theorem dX4_hasPart_22 : decode cX4_hasPart 22 = .ok (.isub, 1) := by decide +kernel
theorem dX4_hasPart_23 : decode cX4_hasPart 23 = .ok (.if_icmp .gt 7, 3) := by decide +kernel
theorem dX4_hasPart_26 : decode cX4_hasPart 26 = .ok (.iconst 1, 1) := by decide +kernel
theorem dX4_hasPart_27 : decode cX4_hasPart 27 = .ok (.goto 4, 3) := by decide +kernel
theorem dX4_hasPart_30 : decode cX4_hasPart 30 = .ok (.iconst 0, 1) := by decide +kernel
theorem dX4_hasPart_31 : decode cX4_hasPart 31 = .ok (.ireturn, 1) := by decide +kernel
theorem dX4_asItem_0 : decode cX4_asItem 0 = .ok (.aload_n 0, 1) := by decide +kernel
theorem dX4_asItem_1 : decode cX4_asItem 1 = .ok (.getfield 9, 3) := by decide +kernel
theorem dX4_asItem_4 : decode cX4_asItem 4 = .ok (.tableswitch 62 0 4 #[36, 41, 46, 62, 50], 36) := by decide +kernel
theorem dX4_asItem_40 : decode cX4_asItem 40 = .ok (.lload_n 1, 1) := by decide +kernel
theorem dX4_asItem_41 : decode cX4_asItem 41 = .ok (.l2i, 1) := by decide +kernel
theorem dX4_asItem_42 : decode cX4_asItem 42 = .ok (.i2b, 1) := by decide +kernel
theorem dX4_asItem_43 : decode cX4_asItem 43 = .ok (.i2l, 1) := by decide +kernel
theorem dX4_asItem_44 : decode cX4_asItem 44 = .ok (.lreturn, 1) := by decide +kernel
theorem dX4_asItem_45 : decode cX4_asItem 45 = .ok (.lload_n 1, 1) := by decide +kernel
theorem dX4_asItem_46 : decode cX4_asItem 46 = .ok (.l2i, 1) := by decide +kernel
theorem dX4_asItem_47 : decode cX4_asItem 47 = .ok (.i2s, 1) := by decide +kernel
theorem dX4_asItem_48 : decode cX4_asItem 48 = .ok (.i2l, 1) := by decide +kernel
theorem dX4_asItem_49 : decode cX4_asItem 49 = .ok (.lreturn, 1) := by decide +kernel
theorem dX4_asItem_50 : decode cX4_asItem 50 = .ok (.lload_n 1, 1) := by decide +kernel
theorem dX4_asItem_51 : decode cX4_asItem 51 = .ok (.l2i, 1) := by decide +kernel
theorem dX4_asItem_52 : decode cX4_asItem 52 = .ok (.i2l, 1) := by decide +kernel
theorem dX4_asItem_53 : decode cX4_asItem 53 = .ok (.lreturn, 1) := by decide +kernel
theorem dX4_asItem_54 : decode cX4_asItem 54 = .ok (.lload_n 1, 1) := by decide +kernel
theorem dX4_asItem_55 : decode cX4_asItem 55 = .ok (.lconst 0, 1) := by decide +kernel
theorem dX4_asItem_56 : decode cX4_asItem 56 = .ok (.lcmp, 1) := by decide +kernel
theorem dX4_asItem_57 : decode cX4_asItem 57 = .ok (.ifCond .eq 7, 3) := by decide +kernel
theorem dX4_asItem_60 : decode cX4_asItem 60 = .ok (.lconst 1, 1) := by decide +kernel
theorem dX4_asItem_61 : decode cX4_asItem 61 = .ok (.goto 4, 3) := by decide +kernel
theorem dX4_asItem_64 : decode cX4_asItem 64 = .ok (.lconst 0, 1) := by decide +kernel
theorem dX4_asItem_65 : decode cX4_asItem 65 = .ok (.lreturn, 1) := by decide +kernel
theorem dX4_asItem_66 : decode cX4_asItem 66 = .ok (.lload_n 1, 1) := by decide +kernel
theorem dX4_asItem_67 : decode cX4_asItem 67 = .ok (.lreturn, 1) := by decide +kernel
theorem dX5_init_0 : decode cX5_init 0 = .ok (.aload_n 0, 1) := by decide +kernel
theorem dX5_init_1 : decode cX5_init 1 = .ok (.invokespecial 3, 3) := by decide +kernel
theorem dX5_init_4 : decode cX5_init 4 = .ok (.aload_n 0, 1) := by decide +kernel
theorem dX5_init_5 : decode cX5_init 5 = .ok (.bipush 100, 2) := by decide +kernel
theorem dX5_init_7 : decode cX5_init 7 = .ok (.newarray .int, 2) := by decide +kernel
theorem dX5_init_9 : decode cX5_init 9 = .ok (.putfield 9, 3) := by decide +kernel
theorem dX5_init_12 : decode cX5_init 12 = .ok (.return_, 1) := by decide +kernel
theorem dX5_append_0 : decode cX5_append 0 = .ok (.aload_n 0, 1) := by decide +kernel
theorem dX5_append_1 : decode cX5_append 1 = .ok (.getfield 15, 3) := by decide +kernel
theorem dX5_append_4 : decode cX5_append 4 = .ok (.bipush 100, 2) := by decide +kernel
theorem dX5_append_6 : decode cX5_append 6 = .ok (.if_icmp .lt 6, 3) := by decide +kernel
theorem dX5_append_9 : decode cX5_append 9 = .ok (.bipush (-4), 2) := by decide +kernel
theorem dX5_append_11 : decode cX5_append 11 = .ok (.ireturn, 1) := by decide +kernel
theorem dX5_append_12 : decode cX5_append 12 = .ok (.aload_n 0, 1) := by decide +kernel
theorem dX5_append_13 : decode cX5_append 13 = .ok (.getfield 9, 3) := by decide +kernel
theorem dX5_append_16 : decode cX5_append 16 = .ok (.aload_n 0, 1) := by decide +kernel
theorem dX5_append_17 : decode cX5_append 17 = .ok (.getfield 15, 3) := by decide +kernel
theorem dX5_append_20 : decode cX5_append 20 = .ok (.iload_n 1, 1) := by decide +kernel
theorem dX5_append_21 : decode cX5_append 21 = .ok (.iastore, 1) := by decide +kernel
theorem dX5_append_22 : decode cX5_append 22 = .ok (.aload_n 0, 1) := by decide +kernel
theorem dX5_append_23 : decode cX5_append 23 = .ok (.dup, 1) := by decide +kernel
theorem dX5_append_24 : decode cX5_append 24 = .ok (.getfield 15, 3) := by decide +kernel
theorem dX5_append_27 : decode cX5_append 27 = .ok (.iconst 1, 1) := by decide +kernel
theorem dX5_append_28 : decode cX5_append 28 = .ok (.iadd, 1) := by decide +kernel
theorem dX5_append_29 : decode cX5_append 29 = .ok (.putfield 15, 3) := by decide +kernel
theorem dX5_append_32 : decode cX5_append 32 = .ok (.aload_n 0, 1) := by decide +kernel
theorem dX5_append_33 : decode cX5_append 33 = .ok (.getfield 15, 3) := by decide +kernel
theorem dX5_append_36 : decode cX5_append 36 = .ok (.ireturn, 1) := by decide +kernel
theorem dX5_readInto_0 : decode cX5_readInto 0 = .ok (.aload_n 1, 1) := by decide +kernel
theorem dX5_readInto_1 : decode cX5_readInto 1 = .ok (.invokevirtual 19, 3) := by decide +kernel
theorem dX5_readInto_4 : decode cX5_readInto 4 = .ok (.aload_n 0, 1) := by decide +kernel
theorem dX5_readInto_5 : decode cX5_readInto 5 = .ok (.iconst 0, 1) := by decide +kernel
theorem dX5_readInto_6 : decode cX5_readInto 6 = .ok (.putfield 24, 3) := by decide +kernel
theorem dX5_readInto_9 : decode cX5_readInto 9 = .ok (.iconst 0, 1) := by decide +kernel
theorem dX5_readInto_10 : decode cX5_readInto 10 = .ok (.istore_n 2, 1) := by decide +kernel
theorem dX5_readInto_11 : decode cX5_readInto 11 = .ok (.iload_n 2, 1) := by decide +kernel
theorem dX5_readInto_12 : decode cX5_readInto 12 = .ok (.bipush 10, 2) := by decide +kernel
theorem dX5_readInto_14 : decode cX5_readInto 14 = .ok (.if_icmp .ge 55, 3) := by decide +kernel
theorem dX5_readInto_17 : decode cX5_readInto 17 = .ok (.aload_n 0, 1) := by decide +kernel
theorem dX5_readInto_18 : decode cX5_readInto 18 = .ok (.aload_n 1, 1) := by decide +kernel
theorem dX5_readInto_19 : decode cX5_readInto 19 = .ok (.invokevirtual 27, 3) := by decide +kernel
theorem dX5_readInto_22 : decode cX5_readInto 22 = .ok (.ifCond .ne 8, 3) := by decide +kernel
theorem dX5_readInto_25 : decode cX5_readInto 25 = .ok (.aload_n 0, 1) := by decide +kernel
theorem dX5_readInto_26 : decode cX5_readInto 26 = .ok (.getfield 24, 3) := by decide +kernel
theorem dX5_readInto_29 : decode cX5_readInto 29 = .ok (.ireturn, 1) := by decide +kernel
theorem dX5_readInto_30 : decode cX5_readInto 30 = .ok (.aload_n 0, 1) := by decide +kernel
theorem dX5_readInto_31 : decode cX5_readInto 31 = .ok (.getfield 24, 3) := by decide +kernel
theorem dX5_readInto_34 : decode cX5_readInto 34 = .ok (.aload_n 0, 1) := by decide +kernel
theorem dX5_readInto_35 : decode cX5_readInto 35 = .ok (.getfield 15, 3) := by decide +kernel
theorem dX5_readInto_38 : decode cX5_readInto 38 = .ok (.if_icmp .lt 5, 3) := by decide +kernel
theorem dX5_readInto_41 : decode cX5_readInto 41 = .ok (.iconst (-1), 1) := by decide +kernel
theorem dX5_readInto_42 : decode cX5_readInto 42 = .ok (.ireturn, 1) := by decide +kernel
theorem dX5_readInto_43 : decode cX5_readInto 43 = .ok (.iload_n 2, 1) := by decide +kernel
theorem dX5_readInto_44 : decode cX5_readInto 44 = .ok (.bipush 9, 2) := by decide +kernel
theorem dX5_readInto_46 : decode cX5_readInto 46 = .ok (.if_icmp .eq 12, 3) := by decide +kernel
theorem dX5_readInto_49 : decode cX5_readInto 49 = .ok (.aload_n 0, 1) := by decide +kernel
theorem dX5_readInto_50 : decode cX5_readInto 50 = .ok (.bipush 59, 2) := by decide +kernel
theorem dX5_readInto_52 : decode cX5_readInto 52 = .ok (.invokevirtual 31, 3) := by decide +kernel
theorem dX5_readInto_55 : decode cX5_readInto 55 = .ok (.ifCond .ne 8, 3) := by decide +kernel
theorem dX5_readInto_58 : decode cX5_readInto 58 = .ok (.aload_n 0, 1) := by decide +kernel
theorem dX5_readInto_59 : decode cX5_readInto 59 = .ok (.getfield 24, 3) := by decide +kernel
theorem dX5_readInto_62 : decode cX5_readInto 62 = .ok (.ireturn, 1) := by decide +kernel
theorem dX5_readInto_63 : decode cX5_readInto 63 = .ok (.iinc 2 1, 3) := by decide +kernel
theorem dX5_readInto_66 : decode cX5_readInto 66 = .ok (.goto (-55), 3) := by decide +kernel
theorem dX5_readInto_69 : decode cX5_readInto 69 = .ok (.aload_n 0, 1) := by decide +kernel
theorem dX5_readInto_70 : decode cX5_readInto 70 = .ok (.getfield 24, 3) := by decide +kernel
theorem dX5_readInto_73 : decode cX5_readInto 73 = .ok (.ireturn, 1) := by decide +kernel
theorem dX5_readClause_0 : decode cX5_readClause 0 = .ok (.aload_n 0, 1) := by decide +kernel
theorem dX5_readClause_1 : decode cX5_readClause 1 = .ok (.invokevirtual 35, 3) := by decide +kernel
theorem dX5_readClause_4 : decode cX5_readClause 4 = .ok (.bipush 100, 2) := by decide +kernel
theorem dX5_readClause_6 : decode cX5_readClause 6 = .ok (.if_icmp .ne 35, 3) := by decide +kernel
theorem dX5_readClause_9 : decode cX5_readClause 9 = .ok (.aload_n 0, 1) := by decide +kernel
theorem dX5_readClause_10 : decode cX5_readClause 10 = .ok (.ldc 39, 2) := by decide +kernel
theorem dX5_readClause_12 : decode cX5_readClause 12 = .ok (.invokevirtual 41, 3) := by decide +kernel
theorem dX5_readClause_15 : decode cX5_readClause 15 = .ok (.ifCond .eq 14, 3) := by decide +kernel
theorem dX5_readClause_18 : decode cX5_readClause 18 = .ok (.aload_n 0, 1) := by decide +kernel
theorem dX5_readClause_19 : decode cX5_readClause 19 = .ok (.invokevirtual 45, 3) := by decide +kernel
theorem dX5_readClause_22 : decode cX5_readClause 22 = .ok (.ifCond .eq 7, 3) := by decide +kernel
theorem dX5_readClause_25 : decode cX5_readClause 25 = .ok (.iconst 1, 1) := by decide +kernel
theorem dX5_readClause_26 : decode cX5_readClause 26 = .ok (.goto 4, 3) := by decide +kernel
theorem dX5_readClause_29 : decode cX5_readClause 29 = .ok (.iconst 0, 1) := by decide +kernel
theorem dX5_readClause_30 : decode cX5_readClause 30 = .ok (.istore_n 2, 1) := by decide +kernel
theorem dX5_readClause_31 : decode cX5_readClause 31 = .ok (.aload_n 1, 1) := by decide +kernel
theorem dX5_readClause_32 : decode cX5_readClause 32 = .ok (.aload_n 0, 1) := by decide +kernel
theorem dX5_readClause_33 : decode cX5_readClause 33 = .ok (.getfield 49, 3) := by decide +kernel
theorem dX5_readClause_36 : decode cX5_readClause 36 = .ok (.putfield 52, 3) := by decide +kernel
theorem dX5_readClause_39 : decode cX5_readClause 39 = .ok (.iload_n 2, 1) := by decide +kernel
theorem dX5_readClause_40 : decode cX5_readClause 40 = .ok (.ireturn, 1) := by decide +kernel
theorem dX5_readClause_41 : decode cX5_readClause 41 = .ok (.aload_n 0, 1) := by decide +kernel
theorem dX5_readClause_42 : decode cX5_readClause 42 = .ok (.invokevirtual 35, 3) := by decide +kernel
theorem dX5_readClause_45 : decode cX5_readClause 45 = .ok (.bipush 98, 2) := by decide +kernel
theorem dX5_readClause_47 : decode cX5_readClause 47 = .ok (.if_icmp .ne 7, 3) := by decide +kernel
theorem dX5_readClause_50 : decode cX5_readClause 50 = .ok (.iconst 1, 1) := by decide +kernel
theorem dX5_readClause_51 : decode cX5_readClause 51 = .ok (.goto 4, 3) := by decide +kernel
theorem dX5_readClause_54 : decode cX5_readClause 54 = .ok (.iconst 0, 1) := by decide +kernel
theorem dX5_readClause_55 : decode cX5_readClause 55 = .ok (.istore_n 2, 1) := by decide +kernel
theorem dX5_readClause_56 : decode cX5_readClause 56 = .ok (.aload_n 0, 1) := by decide +kernel
theorem dX5_readClause_57 : decode cX5_readClause 57 = .ok (.iload_n 2, 1) := by decide +kernel
theorem dX5_readClause_58 : decode cX5_readClause 58 = .ok (.ifCond .eq 8, 3) := by decide +kernel
theorem dX5_readClause_61 : decode cX5_readClause 61 = .ok (.ldc 55, 2) := by decide +kernel
theorem dX5_readClause_63 : decode cX5_readClause 63 = .ok (.goto 5, 3) := by decide +kernel
theorem dX5_readClause_66 : decode cX5_readClause 66 = .ok (.ldc 57, 2) := by decide +kernel
theorem dX5_readClause_68 : decode cX5_readClause 68 = .ok (.invokevirtual 41, 3) := by decide +kernel
theorem dX5_readClause_71 : decode cX5_readClause 71 = .ok (.ifCond .eq 10, 3) := by decide +kernel
theorem dX5_readClause_74 : decode cX5_readClause 74 = .ok (.aload_n 0, 1) := by decide +kernel
theorem dX5_readClause_75 : decode cX5_readClause 75 = .ok (.invokevirtual 45, 3) := by decide +kernel
theorem dX5_readClause_78 : decode cX5_readClause 78 = .ok (.ifCond .ne 5, 3) := by decide +kernel
theorem dX5_readClause_81 : decode cX5_readClause 81 = .ok (.iconst 0, 1) := by decide +kernel
theorem dX5_readClause_82 : decode cX5_readClause 82 = .ok (.ireturn, 1) := by decide +kernel
theorem dX5_readClause_83 : decode cX5_readClause 83 = .ok (.aload_n 0, 1) := by decide +kernel
theorem dX5_readClause_84 : decode cX5_readClause 84 = .ok (.getfield 49, 3) := by decide +kernel
theorem dX5_readClause_87 : decode cX5_readClause 87 = .ok (.istore_n 3, 1) := by decide +kernel
theorem dX5_readClause_88 : decode cX5_readClause 88 = .ok (.aload_n 0, 1) := by decide +kernel
theorem dX5_readClause_89 : decode cX5_readClause 89 = .ok (.bipush 32, 2) := by decide +kernel
theorem dX5_readClause_91 : decode cX5_readClause 91 = .ok (.invokevirtual 31, 3) := by decide +kernel
theorem dX5_readClause_94 : decode cX5_readClause 94 = .ok (.ifCond .eq 12, 3) := by decide +kernel
theorem dX5_readClause_97 : decode cX5_readClause 97 = .ok (.aload_n 0, 1) := by decide +kernel
theorem dX5_readClause_98 : decode cX5_readClause 98 = .ok (.aload_n 1, 1) := by decide +kernel
theorem dX5_readClause_99 : decode cX5_readClause 99 = .ok (.iconst 0, 1) := by decide +kernel
theorem dX5_readClause_100 : decode cX5_readClause 100 = .ok (.invokevirtual 59, 3) := by decide +kernel
theorem dX5_readClause_103 : decode cX5_readClause 103 = .ok (.ifCond .ne 5, 3) := by decide +kernel
theorem dX5_readClause_106 : decode cX5_readClause 106 = .ok (.iconst 0, 1) := by decide +kernel
theorem dX5_readClause_107 : decode cX5_readClause 107 = .ok (.ireturn, 1) := by decide +kernel
theorem dX5_readClause_108 : decode cX5_readClause 108 = .ok (.aload_n 1, 1) := by decide +kernel
theorem dX5_readClause_109 : decode cX5_readClause 109 = .ok (.iload_n 2, 1) := by decide +kernel
theorem dX5_readClause_110 : decode cX5_readClause 110 = .ok (.ifCond .eq 9, 3) := by decide +kernel
theorem dX5_readClause_113 : decode cX5_readClause 113 = .ok (.sipush 2100, 3) := by decide +kernel
theorem dX5_readClause_116 : decode cX5_readClause 116 = .ok (.goto 6, 3) := by decide +kernel
theorem dX5_readClause_119 : decode cX5_readClause 119 = .ok (.sipush 2000, 3) := by decide +kernel
theorem dX5_readClause_122 : decode cX5_readClause 122 = .ok (.iload_n 3, 1) := by decide +kernel
theorem dX5_readClause_123 : decode cX5_readClause 123 = .ok (.iadd, 1) := by decide +kernel
theorem dX5_readClause_124 : decode cX5_readClause 124 = .ok (.invokevirtual 63, 3) := by decide +kernel
theorem dX5_readClause_127 : decode cX5_readClause 127 = .ok (.iconst 1, 1) := by decide +kernel
theorem dX5_readClause_128 : decode cX5_readClause 128 = .ok (.ireturn, 1) := by decide +kernel
theorem dX5_readExpression_0 : decode cX5_readExpression 0 = .ok (.iconst 0, 1) := by decide +kernel
theorem dX5_readExpression_1 : decode cX5_readExpression 1 = .ok (.istore_n 3, 1) := by decide +kernel
theorem dX5_readExpression_2 : decode cX5_readExpression 2 = .ok (.iconst 0, 1) := by decide +kernel
theorem dX5_readExpression_3 : decode cX5_readExpression 3 = .ok (.istore 4, 2) := by decide +kernel
theorem dX5_readExpression_5 : decode cX5_readExpression 5 = .ok (.iconst 0, 1) := by decide +kernel
theorem dX5_readExpression_6 : decode cX5_readExpression 6 = .ok (.istore 5, 2) := by decide +kernel
theorem dX5_readExpression_8 : decode cX5_readExpression 8 = .ok (.iload 5, 2) := by decide +kernel
theorem dX5_readExpression_10 : decode cX5_readExpression 10 = .ok (.bipush 100, 2) := by decide +kernel
theorem dX5_readExpression_12 : decode cX5_readExpression 12 = .ok (.if_icmp .gt 69, 3) := by decide +kernel
theorem dX5_readExpression_15 : decode cX5_readExpression 15 = .ok (.aload_n 0, 1) := by decide +kernel
theorem dX5_readExpression_16 : decode cX5_readExpression 16 = .ok (.aload_n 1, 1) := by decide +kernel
theorem dX5_readExpression_17 : decode cX5_readExpression 17 = .ok (.iload_n 2, 1) := by decide +kernel
theorem dX5_readExpression_18 : decode cX5_readExpression 18 = .ok (.invokevirtual 67, 3) := by decide +kernel
theorem dX5_readExpression_21 : decode cX5_readExpression 21 = .ok (.ifCond .ne 5, 3) := by decide +kernel
theorem dX5_readExpression_24 : decode cX5_readExpression 24 = .ok (.iconst 0, 1) := by decide +kernel
theorem dX5_readExpression_25 : decode cX5_readExpression 25 = .ok (.ireturn, 1) := by decide +kernel
theorem dX5_readExpression_26 : decode cX5_readExpression 26 = .ok (.iload_n 3, 1) := by decide +kernel
theorem dX5_readExpression_27 : decode cX5_readExpression 27 = .ok (.ifCond .eq 8, 3) := by decide +kernel
theorem dX5_readExpression_30 : decode cX5_readExpression 30 = .ok (.aload_n 1, 1) := by decide +kernel
theorem dX5_readExpression_31 : decode cX5_readExpression 31 = .ok (.iconst (-1), 1) := by decide +kernel
theorem dX5_readExpression_32 : decode cX5_readExpression 32 = .ok (.invokevirtual 63, 3) := by decide +kernel
theorem dX5_readExpression_35 : decode cX5_readExpression 35 = .ok (.aload_n 0, 1) := by decide +kernel
theorem dX5_readExpression_36 : decode cX5_readExpression 36 = .ok (.bipush 38, 2) := by decide +kernel
theorem dX5_readExpression_38 : decode cX5_readExpression 38 = .ok (.invokevirtual 31, 3) := by decide +kernel
theorem dX5_readExpression_41 : decode cX5_readExpression 41 = .ok (.istore_n 3, 1) := by decide +kernel
theorem dX5_readExpression_42 : decode cX5_readExpression 42 = .ok (.iload_n 3, 1) := by decide +kernel
theorem dX5_readExpression_43 : decode cX5_readExpression 43 = .ok (.ifCond .eq 6, 3) := by decide +kernel
theorem dX5_readExpression_46 : decode cX5_readExpression 46 = .ok (.goto 29, 3) := by decide +kernel
theorem dX5_readExpression_49 : decode cX5_readExpression 49 = .ok (.iload 4, 2) := by decide +kernel
theorem dX5_readExpression_51 : decode cX5_readExpression 51 = .ok (.ifCond .eq 9, 3) := by decide +kernel
theorem dX5_readExpression_54 : decode cX5_readExpression 54 = .ok (.aload_n 1, 1) := by decide +kernel
theorem dX5_readExpression_55 : decode cX5_readExpression 55 = .ok (.bipush (-2), 2) := by decide +kernel
theorem dX5_readExpression_57 : decode cX5_readExpression 57 = .ok (.invokevirtual 63, 3) := by decide +kernel
theorem dX5_readExpression_60 : decode cX5_readExpression 60 = .ok (.aload_n 0, 1) := by decide +kernel
theorem dX5_readExpression_61 : decode cX5_readExpression 61 = .ok (.bipush 124, 2) := by decide +kernel
theorem dX5_readExpression_63 : decode cX5_readExpression 63 = .ok (.invokevirtual 31, 3) := by decide +kernel
theorem dX5_readExpression_66 : decode cX5_readExpression 66 = .ok (.istore 4, 2) := by decide +kernel
theorem dX5_readExpression_68 : decode cX5_readExpression 68 = .ok (.iload 4, 2) := by decide +kernel
theorem dX5_readExpression_70 : decode cX5_readExpression 70 = .ok (.ifCond .ne 5, 3) := by decide +kernel
theorem dX5_readExpression_73 : decode cX5_readExpression 73 = .ok (.iconst 1, 1) := by decide +kernel
theorem dX5_readExpression_74 : decode cX5_readExpression 74 = .ok (.ireturn, 1) := by decide +kernel
theorem dX5_readExpression_75 : decode cX5_readExpression 75 = .ok (.iinc 5 1, 3) := by decide +kernel
theorem dX5_readExpression_78 : decode cX5_readExpression 78 = .ok (.goto (-70), 3) := by decide +kernel
theorem dX5_readExpression_81 : decode cX5_readExpression 81 = .ok (.iconst 0, 1) := by decide +kernel
theorem dX5_readExpression_82 : decode cX5_readExpression 82 = .ok (.ireturn, 1) := by decide +kernel
theorem dX5_readFactor_0 : decode cX5_readFactor 0 = .ok (.aload_n 0, 1) := by decide +kernel
theorem dX5_readFactor_1 : decode cX5_readFactor 1 = .ok (.invokevirtual 35, 3) := by decide +kernel
theorem dX5_readFactor_4 : decode cX5_readFactor 4 = .ok (.istore_n 3, 1) := by decide +kernel
theorem dX5_readFactor_5 : decode cX5_readFactor 5 = .ok (.iload_n 3, 1) := by decide +kernel
theorem dX5_readFactor_6 : decode cX5_readFactor 6 = .ok (.bipush 33, 2) := by decide +kernel
theorem dX5_readFactor_8 : decode cX5_readFactor 8 = .ok (.if_icmp .eq 15, 3) := by decide +kernel
theorem dX5_readFactor_11 : decode cX5_readFactor 11 = .ok (.iload_n 3, 1) := by decide +kernel
theorem dX5_readFactor_12 : decode cX5_readFactor 12 = .ok (.bipush 40, 2) := by decide +kernel
theorem dX5_readFactor_14 : decode cX5_readFactor 14 = .ok (.if_icmp .eq 9, 3) := by decide +kernel
theorem dX5_readFactor_17 : decode cX5_readFactor 17 = .ok (.aload_n 0, 1) := by decide +kernel
theorem dX5_readFactor_18 : decode cX5_readFactor 18 = .ok (.aload_n 1, 1) := by decide +kernel
theorem dX5_readFactor_19 : decode cX5_readFactor 19 = .ok (.invokevirtual 70, 3) := by decide +kernel
theorem dX5_readFactor_22 : decode cX5_readFactor 22 = .ok (.ireturn, 1) := by decide +kernel
theorem dX5_readFactor_23 : decode cX5_readFactor 23 = .ok (.iload_n 2, 1) := by decide +kernel
theorem dX5_readFactor_24 : decode cX5_readFactor 24 = .ok (.iconst 4, 1) := by decide +kernel
theorem dX5_readFactor_25 : decode cX5_readFactor 25 = .ok (.if_icmp .lt 5, 3) := by decide +kernel
theorem dX5_readFactor_28 : decode cX5_readFactor 28 = .ok (.iconst 0, 1) := by decide +kernel
theorem dX5_readFactor_29 : decode cX5_readFactor 29 = .ok (.ireturn, 1) := by decide +kernel
theorem dX5_readFactor_30 : decode cX5_readFactor 30 = .ok (.aload_n 0, 1) := by decide +kernel
theorem dX5_readFactor_31 : decode cX5_readFactor 31 = .ok (.dup, 1) := by decide +kernel
theorem dX5_readFactor_32 : decode cX5_readFactor 32 = .ok (.getfield 24, 3) := by decide +kernel
theorem dX5_readFactor_35 : decode cX5_readFactor 35 = .ok (.iconst 1, 1) := by decide +kernel
theorem dX5_readFactor_36 : decode cX5_readFactor 36 = .ok (.iadd, 1) := by decide +kernel
theorem dX5_readFactor_37 : decode cX5_readFactor 37 = .ok (.putfield 24, 3) := by decide +kernel
theorem dX5_readFactor_40 : decode cX5_readFactor 40 = .ok (.iload_n 3, 1) := by decide +kernel
theorem dX5_readFactor_41 : decode cX5_readFactor 41 = .ok (.bipush 33, 2) := by decide +kernel
theorem dX5_readFactor_43 : decode cX5_readFactor 43 = .ok (.if_icmp .ne 12, 3) := by decide +kernel
theorem dX5_readFactor_46 : decode cX5_readFactor 46 = .ok (.aload_n 0, 1) := by decide +kernel
theorem dX5_readFactor_47 : decode cX5_readFactor 47 = .ok (.aload_n 1, 1) := by decide +kernel
theorem dX5_readFactor_48 : decode cX5_readFactor 48 = .ok (.iload_n 2, 1) := by decide +kernel
theorem dX5_readFactor_49 : decode cX5_readFactor 49 = .ok (.iconst 1, 1) := by decide +kernel
theorem dX5_readFactor_50 : decode cX5_readFactor 50 = .ok (.iadd, 1) := by decide +kernel
theorem dX5_readFactor_51 : decode cX5_readFactor 51 = .ok (.invokevirtual 73, 3) := by decide +kernel
theorem dX5_readFactor_54 : decode cX5_readFactor 54 = .ok (.ireturn, 1) := by decide +kernel
theorem dX5_readFactor_55 : decode cX5_readFactor 55 = .ok (.aload_n 0, 1) := by decide +kernel
theorem dX5_readFactor_56 : decode cX5_readFactor 56 = .ok (.aload_n 1, 1) := by decide +kernel
theorem dX5_readFactor_57 : decode cX5_readFactor 57 = .ok (.iload_n 2, 1) := by decide +kernel
theorem dX5_readFactor_58 : decode cX5_readFactor 58 = .ok (.iconst 1, 1) := by decide +kernel
theorem dX5_readFactor_59 : decode cX5_readFactor 59 = .ok (.iadd, 1) := by decide +kernel
theorem dX5_readFactor_60 : decode cX5_readFactor 60 = .ok (.invokevirtual 59, 3) := by decide +kernel
theorem dX5_readFactor_63 : decode cX5_readFactor 63 = .ok (.ifCond .eq 16, 3) := by decide +kernel
theorem dX5_readFactor_66 : decode cX5_readFactor 66 = .ok (.aload_n 0, 1) := by decide +kernel
theorem dX5_readFactor_67 : decode cX5_readFactor 67 = .ok (.bipush 41, 2) := by decide +kernel
theorem dX5_readFactor_69 : decode cX5_readFactor 69 = .ok (.invokevirtual 31, 3) := by decide +kernel
theorem dX5_readFactor_72 : decode cX5_readFactor 72 = .ok (.ifCond .eq 7, 3) := by decide +kernel
theorem dX5_readFactor_75 : decode cX5_readFactor 75 = .ok (.iconst 1, 1) := by decide +kernel
theorem dX5_readFactor_76 : decode cX5_readFactor 76 = .ok (.goto 4, 3) := by decide +kernel
theorem dX5_readFactor_79 : decode cX5_readFactor 79 = .ok (.iconst 0, 1) := by decide +kernel
theorem dX5_readFactor_80 : decode cX5_readFactor 80 = .ok (.ireturn, 1) := by decide +kernel
theorem dX5_readDenied_0 : decode cX5_readDenied 0 = .ok (.aload_n 0, 1) := by decide +kernel
theorem dX5_readDenied_1 : decode cX5_readDenied 1 = .ok (.aload_n 1, 1) := by decide +kernel
theorem dX5_readDenied_2 : decode cX5_readDenied 2 = .ok (.iload_n 2, 1) := by decide +kernel
theorem dX5_readDenied_3 : decode cX5_readDenied 3 = .ok (.invokevirtual 67, 3) := by decide +kernel
theorem dX5_readDenied_6 : decode cX5_readDenied 6 = .ok (.ifCond .ne 5, 3) := by decide +kernel
theorem dX5_readDenied_9 : decode cX5_readDenied 9 = .ok (.iconst 0, 1) := by decide +kernel
theorem dX5_readDenied_10 : decode cX5_readDenied 10 = .ok (.ireturn, 1) := by decide +kernel
theorem dX5_readDenied_11 : decode cX5_readDenied 11 = .ok (.aload_n 1, 1) := by decide +kernel
theorem dX5_readDenied_12 : decode cX5_readDenied 12 = .ok (.bipush (-3), 2) := by decide +kernel
theorem dX5_readDenied_14 : decode cX5_readDenied 14 = .ok (.invokevirtual 63, 3) := by decide +kernel
theorem dX5_readDenied_17 : decode cX5_readDenied 17 = .ok (.iconst 1, 1) := by decide +kernel
theorem dX5_readDenied_18 : decode cX5_readDenied 18 = .ok (.ireturn, 1) := by decide +kernel
theorem dX5_readTest_0 : decode cX5_readTest 0 = .ok (.aload_n 0, 1) := by decide +kernel
theorem dX5_readTest_1 : decode cX5_readTest 1 = .ok (.ldc 76, 2) := by decide +kernel
theorem dX5_readTest_3 : decode cX5_readTest 3 = .ok (.invokevirtual 78, 3) := by decide +kernel
theorem dX5_readTest_6 : decode cX5_readTest 6 = .ok (.istore_n 2, 1) := by decide +kernel
theorem dX5_readTest_7 : decode cX5_readTest 7 = .ok (.iload_n 2, 1) := by decide +kernel
theorem dX5_readTest_8 : decode cX5_readTest 8 = .ok (.ifCond .ge 5, 3) := by decide +kernel
theorem dX5_readTest_11 : decode cX5_readTest 11 = .ok (.iconst 0, 1) := by decide +kernel
theorem dX5_readTest_12 : decode cX5_readTest 12 = .ok (.ireturn, 1) := by decide +kernel
theorem dX5_readTest_13 : decode cX5_readTest 13 = .ok (.aload_n 0, 1) := by decide +kernel
theorem dX5_readTest_14 : decode cX5_readTest 14 = .ok (.ldc 82, 2) := by decide +kernel
theorem dX5_readTest_16 : decode cX5_readTest 16 = .ok (.invokevirtual 78, 3) := by decide +kernel
theorem dX5_readTest_19 : decode cX5_readTest 19 = .ok (.istore_n 3, 1) := by decide +kernel
theorem dX5_readTest_20 : decode cX5_readTest 20 = .ok (.iload_n 3, 1) := by decide +kernel
theorem dX5_readTest_21 : decode cX5_readTest 21 = .ok (.ifCond .lt 10, 3) := by decide +kernel
theorem dX5_readTest_24 : decode cX5_readTest 24 = .ok (.aload_n 0, 1) := by decide +kernel
theorem dX5_readTest_25 : decode cX5_readTest 25 = .ok (.invokevirtual 45, 3) := by decide +kernel
theorem dX5_readTest_28 : decode cX5_readTest 28 = .ok (.ifCond .ne 5, 3) := by decide +kernel
theorem dX5_readTest_31 : decode cX5_readTest 31 = .ok (.iconst 0, 1) := by decide +kernel
theorem dX5_readTest_32 : decode cX5_readTest 32 = .ok (.ireturn, 1) := by decide +kernel
theorem dX5_readTest_33 : decode cX5_readTest 33 = .ok (.aload_n 1, 1) := by decide +kernel
theorem dX5_readTest_34 : decode cX5_readTest 34 = .ok (.iload_n 2, 1) := by decide +kernel
theorem dX5_readTest_35 : decode cX5_readTest 35 = .ok (.sipush 300, 3) := by decide +kernel
theorem dX5_readTest_38 : decode cX5_readTest 38 = .ok (.imul, 1) := by decide +kernel
theorem dX5_readTest_39 : decode cX5_readTest 39 = .ok (.iload_n 3, 1) := by decide +kernel
theorem dX5_readTest_40 : decode cX5_readTest 40 = .ok (.bipush 100, 2) := by decide +kernel
theorem dX5_readTest_42 : decode cX5_readTest 42 = .ok (.imul, 1) := by decide +kernel
theorem dX5_readTest_43 : decode cX5_readTest 43 = .ok (.iadd, 1) := by decide +kernel
theorem dX5_readTest_44 : decode cX5_readTest 44 = .ok (.aload_n 0, 1) := by decide +kernel
theorem dX5_readTest_45 : decode cX5_readTest 45 = .ok (.getfield 49, 3) := by decide +kernel
theorem dX5_readTest_48 : decode cX5_readTest 48 = .ok (.iadd, 1) := by decide +kernel
theorem dX5_readTest_49 : decode cX5_readTest 49 = .ok (.invokevirtual 63, 3) := by decide +kernel
theorem dX5_readTest_52 : decode cX5_readTest 52 = .ok (.iconst 1, 1) := by decide +kernel
theorem dX5_readTest_53 : decode cX5_readTest 53 = .ok (.ireturn, 1) := by decide +kernel
theorem dX5_sign_0 : decode cX5_sign 0 = .ok (.aload_n 0, 1) := by decide +kernel
theorem dX5_sign_1 : decode cX5_sign 1 = .ok (.getfield 24, 3) := by decide +kernel
theorem dX5_sign_4 : decode cX5_sign 4 = .ok (.aload_n 0, 1) := by decide +kernel
theorem dX5_sign_5 : decode cX5_sign 5 = .ok (.getfield 15, 3) := by decide +kernel
theorem dX5_sign_8 : decode cX5_sign 8 = .ok (.if_icmp .ge 15, 3) := by decide +kernel
theorem dX5_sign_11 : decode cX5_sign 11 = .ok (.aload_n 0, 1) := by decide +kernel
theorem dX5_sign_12 : decode cX5_sign 12 = .ok (.getfield 9, 3) := by decide +kernel
theorem dX5_sign_15 : decode cX5_sign 15 = .ok (.aload_n 0, 1) := by decide +kernel
theorem dX5_sign_16 : decode cX5_sign 16 = .ok (.getfield 24, 3) := by decide +kernel
theorem dX5_sign_19 : decode cX5_sign 19 = .ok (.iaload, 1) := by decide +kernel
theorem dX5_sign_20 : decode cX5_sign 20 = .ok (.goto 4, 3) := by decide +kernel
theorem dX5_sign_23 : decode cX5_sign 23 = .ok (.iconst (-1), 1) := by decide +kernel
theorem dX5_sign_24 : decode cX5_sign 24 = .ok (.ireturn, 1) := by decide +kernel
theorem dX5_takes_0 : decode cX5_takes 0 = .ok (.aload_n 0, 1) := by decide +kernel
theorem dX5_takes_1 : decode cX5_takes 1 = .ok (.invokevirtual 35, 3) := by decide +kernel
theorem dX5_takes_4 : decode cX5_takes 4 = .ok (.iload_n 1, 1) := by decide +kernel
theorem dX5_takes_5 : decode cX5_takes 5 = .ok (.if_icmp .eq 5, 3) := by decide +kernel
theorem dX5_takes_8 : decode cX5_takes 8 = .ok (.iconst 0, 1) := by decide +kernel
theorem dX5_takes_9 : decode cX5_takes 9 = .ok (.ireturn, 1) := by decide +kernel
theorem dX5_takes_10 : decode cX5_takes 10 = .ok (.aload_n 0, 1) := by decide +kernel
theorem dX5_takes_11 : decode cX5_takes 11 = .ok (.dup, 1) := by decide +kernel
theorem dX5_takes_12 : decode cX5_takes 12 = .ok (.getfield 24, 3) := by decide +kernel
theorem dX5_takes_15 : decode cX5_takes 15 = .ok (.iconst 1, 1) := by decide +kernel
theorem dX5_takes_16 : decode cX5_takes 16 = .ok (.iadd, 1) := by decide +kernel
theorem dX5_takes_17 : decode cX5_takes 17 = .ok (.putfield 24, 3) := by decide +kernel
theorem dX5_takes_20 : decode cX5_takes 20 = .ok (.iconst 1, 1) := by decide +kernel
theorem dX5_takes_21 : decode cX5_takes 21 = .ok (.ireturn, 1) := by decide +kernel
theorem dX5_takesWord_0 : decode cX5_takesWord 0 = .ok (.iconst 0, 1) := by decide +kernel
theorem dX5_takesWord_1 : decode cX5_takesWord 1 = .ok (.istore_n 2, 1) := by decide +kernel
theorem dX5_takesWord_2 : decode cX5_takesWord 2 = .ok (.iload_n 2, 1) := by decide +kernel
theorem dX5_takesWord_3 : decode cX5_takesWord 3 = .ok (.aload_n 1, 1) := by decide +kernel
theorem dX5_takesWord_4 : decode cX5_takesWord 4 = .ok (.invokevirtual 84, 3) := by decide +kernel
theorem dX5_takesWord_7 : decode cX5_takesWord 7 = .ok (.if_icmp .ge 23, 3) := by decide +kernel
theorem dX5_takesWord_10 : decode cX5_takesWord 10 = .ok (.aload_n 0, 1) := by decide +kernel
theorem dX5_takesWord_11 : decode cX5_takesWord 11 = .ok (.aload_n 1, 1) := by decide +kernel
theorem dX5_takesWord_12 : decode cX5_takesWord 12 = .ok (.iload_n 2, 1) := by decide +kernel
theorem dX5_takesWord_13 : decode cX5_takesWord 13 = .ok (.invokevirtual 88, 3) := by decide +kernel
theorem dX5_takesWord_16 : decode cX5_takesWord 16 = .ok (.invokevirtual 31, 3) := by decide +kernel
theorem dX5_takesWord_19 : decode cX5_takesWord 19 = .ok (.ifCond .ne 5, 3) := by decide +kernel
theorem dX5_takesWord_22 : decode cX5_takesWord 22 = .ok (.iconst 0, 1) := by decide +kernel
theorem dX5_takesWord_23 : decode cX5_takesWord 23 = .ok (.ireturn, 1) := by decide +kernel
theorem dX5_takesWord_24 : decode cX5_takesWord 24 = .ok (.iinc 2 1, 3) := by decide +kernel
theorem dX5_takesWord_27 : decode cX5_takesWord 27 = .ok (.goto (-25), 3) := by decide +kernel
theorem dX5_takesWord_30 : decode cX5_takesWord 30 = .ok (.iconst 1, 1) := by decide +kernel
theorem dX5_takesWord_31 : decode cX5_takesWord 31 = .ok (.ireturn, 1) := by decide +kernel
theorem dX5_takesOneOf_0 : decode cX5_takesOneOf 0 = .ok (.aload_n 0, 1) := by decide +kernel
theorem dX5_takesOneOf_1 : decode cX5_takesOneOf 1 = .ok (.invokevirtual 35, 3) := by decide +kernel
theorem dX5_takesOneOf_4 : decode cX5_takesOneOf 4 = .ok (.istore_n 2, 1) := by decide +kernel
theorem dX5_takesOneOf_5 : decode cX5_takesOneOf 5 = .ok (.iload_n 2, 1) := by decide +kernel
theorem dX5_takesOneOf_6 : decode cX5_takesOneOf 6 = .ok (.ifCond .ge 5, 3) := by decide +kernel
theorem dX5_takesOneOf_9 : decode cX5_takesOneOf 9 = .ok (.iconst (-1), 1) := by decide +kernel
theorem dX5_takesOneOf_10 : decode cX5_takesOneOf 10 = .ok (.ireturn, 1) := by decide +kernel
theorem dX5_takesOneOf_11 : decode cX5_takesOneOf 11 = .ok (.aload_n 1, 1) := by decide +kernel
theorem dX5_takesOneOf_12 : decode cX5_takesOneOf 12 = .ok (.iload_n 2, 1) := by decide +kernel
theorem dX5_takesOneOf_13 : decode cX5_takesOneOf 13 = .ok (.i2c, 1) := by decide +kernel
theorem dX5_takesOneOf_14 : decode cX5_takesOneOf 14 = .ok (.invokevirtual 92, 3) := by decide +kernel
theorem dX5_takesOneOf_17 : decode cX5_takesOneOf 17 = .ok (.istore_n 3, 1) := by decide +kernel
theorem dX5_takesOneOf_18 : decode cX5_takesOneOf 18 = .ok (.iload_n 3, 1) := by decide +kernel
theorem dX5_takesOneOf_19 : decode cX5_takesOneOf 19 = .ok (.ifCond .lt 13, 3) := by decide +kernel
theorem dX5_takesOneOf_22 : decode cX5_takesOneOf 22 = .ok (.aload_n 0, 1) := by decide +kernel
theorem dX5_takesOneOf_23 : decode cX5_takesOneOf 23 = .ok (.dup, 1) := by decide +kernel
theorem dX5_takesOneOf_24 : decode cX5_takesOneOf 24 = .ok (.getfield 24, 3) := by decide +kernel
theorem dX5_takesOneOf_27 : decode cX5_takesOneOf 27 = .ok (.iconst 1, 1) := by decide +kernel
theorem dX5_takesOneOf_28 : decode cX5_takesOneOf 28 = .ok (.iadd, 1) := by decide +kernel
theorem dX5_takesOneOf_29 : decode cX5_takesOneOf 29 = .ok (.putfield 24, 3) := by decide +kernel
theorem dX5_takesOneOf_32 : decode cX5_takesOneOf 32 = .ok (.iload_n 3, 1) := by decide +kernel
theorem dX5_takesOneOf_33 : decode cX5_takesOneOf 33 = .ok (.ireturn, 1) := by decide +kernel
theorem dX5_takesNumber_0 : decode cX5_takesNumber 0 = .ok (.aload_n 0, 1) := by decide +kernel
theorem dX5_takesNumber_1 : decode cX5_takesNumber 1 = .ok (.iconst 0, 1) := by decide +kernel
theorem dX5_takesNumber_2 : decode cX5_takesNumber 2 = .ok (.putfield 49, 3) := by decide +kernel
theorem dX5_takesNumber_5 : decode cX5_takesNumber 5 = .ok (.iconst 0, 1) := by decide +kernel
theorem dX5_takesNumber_6 : decode cX5_takesNumber 6 = .ok (.istore_n 1, 1) := by decide +kernel
theorem dX5_takesNumber_7 : decode cX5_takesNumber 7 = .ok (.iconst 0, 1) := by decide +kernel
theorem dX5_takesNumber_8 : decode cX5_takesNumber 8 = .ok (.istore_n 2, 1) := by decide +kernel
theorem dX5_takesNumber_9 : decode cX5_takesNumber 9 = .ok (.iload_n 2, 1) := by decide +kernel
theorem dX5_takesNumber_10 : decode cX5_takesNumber 10 = .ok (.iconst 2, 1) := by decide +kernel
theorem dX5_takesNumber_11 : decode cX5_takesNumber 11 = .ok (.if_icmp .ge 59, 3) := by decide +kernel
theorem dX5_takesNumber_14 : decode cX5_takesNumber 14 = .ok (.aload_n 0, 1) := by decide +kernel
theorem dX5_takesNumber_15 : decode cX5_takesNumber 15 = .ok (.invokevirtual 35, 3) := by decide +kernel
theorem dX5_takesNumber_18 : decode cX5_takesNumber 18 = .ok (.bipush 48, 2) := by decide +kernel
theorem dX5_takesNumber_20 : decode cX5_takesNumber 20 = .ok (.if_icmp .lt 50, 3) := by decide +kernel
theorem dX5_takesNumber_23 : decode cX5_takesNumber 23 = .ok (.aload_n 0, 1) := by decide +kernel
theorem dX5_takesNumber_24 : decode cX5_takesNumber 24 = .ok (.invokevirtual 35, 3) := by decide +kernel
theorem dX5_takesNumber_27 : decode cX5_takesNumber 27 = .ok (.bipush 57, 2) := by decide +kernel
theorem dX5_takesNumber_29 : decode cX5_takesNumber 29 = .ok (.if_icmp .gt 41, 3) := by decide +kernel
theorem dX5_takesNumber_32 : decode cX5_takesNumber 32 = .ok (.aload_n 0, 1) := by decide +kernel
theorem dX5_takesNumber_33 : decode cX5_takesNumber 33 = .ok (.aload_n 0, 1) := by decide +kernel
theorem dX5_takesNumber_34 : decode cX5_takesNumber 34 = .ok (.getfield 49, 3) := by decide +kernel
theorem dX5_takesNumber_37 : decode cX5_takesNumber 37 = .ok (.bipush 10, 2) := by decide +kernel
theorem dX5_takesNumber_39 : decode cX5_takesNumber 39 = .ok (.imul, 1) := by decide +kernel
theorem dX5_takesNumber_40 : decode cX5_takesNumber 40 = .ok (.aload_n 0, 1) := by decide +kernel
theorem dX5_takesNumber_41 : decode cX5_takesNumber 41 = .ok (.invokevirtual 35, 3) := by decide +kernel
theorem dX5_takesNumber_44 : decode cX5_takesNumber 44 = .ok (.iadd, 1) := by decide +kernel
theorem dX5_takesNumber_45 : decode cX5_takesNumber 45 = .ok (.bipush 48, 2) := by decide +kernel
theorem dX5_takesNumber_47 : decode cX5_takesNumber 47 = .ok (.isub, 1) := by decide +kernel
theorem dX5_takesNumber_48 : decode cX5_takesNumber 48 = .ok (.putfield 49, 3) := by decide +kernel
theorem dX5_takesNumber_51 : decode cX5_takesNumber 51 = .ok (.aload_n 0, 1) := by decide +kernel
theorem dX5_takesNumber_52 : decode cX5_takesNumber 52 = .ok (.dup, 1) := by decide +kernel
theorem dX5_takesNumber_53 : decode cX5_takesNumber 53 = .ok (.getfield 24, 3) := by decide +kernel
theorem dX5_takesNumber_56 : decode cX5_takesNumber 56 = .ok (.iconst 1, 1) := by decide +kernel
theorem dX5_takesNumber_57 : decode cX5_takesNumber 57 = .ok (.iadd, 1) := by decide +kernel
theorem dX5_takesNumber_58 : decode cX5_takesNumber 58 = .ok (.putfield 24, 3) := by decide +kernel
theorem dX5_takesNumber_61 : decode cX5_takesNumber 61 = .ok (.iinc 1 1, 3) := by decide +kernel
theorem dX5_takesNumber_64 : decode cX5_takesNumber 64 = .ok (.iinc 2 1, 3) := by decide +kernel
theorem dX5_takesNumber_67 : decode cX5_takesNumber 67 = .ok (.goto (-58), 3) := by decide +kernel
theorem dX5_takesNumber_70 : decode cX5_takesNumber 70 = .ok (.iload_n 1, 1) := by decide +kernel
theorem dX5_takesNumber_71 : decode cX5_takesNumber 71 = .ok (.ifCond .le 7, 3) := by decide +kernel
theorem dX5_takesNumber_74 : decode cX5_takesNumber 74 = .ok (.iconst 1, 1) := by decide +kernel
theorem dX5_takesNumber_75 : decode cX5_takesNumber 75 = .ok (.goto 4, 3) := by decide +kernel
theorem dX5_takesNumber_78 : decode cX5_takesNumber 78 = .ok (.iconst 0, 1) := by decide +kernel
theorem dX5_takesNumber_79 : decode cX5_takesNumber 79 = .ok (.ireturn, 1) := by decide +kernel
theorem dX6_init_0 : decode cX6_init 0 = .ok (.aload_n 0, 1) := by decide +kernel
theorem dX6_init_1 : decode cX6_init 1 = .ok (.invokespecial 3, 3) := by decide +kernel
theorem dX6_init_4 : decode cX6_init 4 = .ok (.aload_n 0, 1) := by decide +kernel
theorem dX6_init_5 : decode cX6_init 5 = .ok (.sipush 1536, 3) := by decide +kernel
theorem dX6_init_8 : decode cX6_init 8 = .ok (.newarray .int, 2) := by decide +kernel
theorem dX6_init_10 : decode cX6_init 10 = .ok (.putfield 9, 3) := by decide +kernel
theorem dX6_init_13 : decode cX6_init 13 = .ok (.aload_n 0, 1) := by decide +kernel
theorem dX6_init_14 : decode cX6_init 14 = .ok (.sipush 1536, 3) := by decide +kernel
theorem dX6_init_17 : decode cX6_init 17 = .ok (.newarray .int, 2) := by decide +kernel
theorem dX6_init_19 : decode cX6_init 19 = .ok (.putfield 15, 3) := by decide +kernel
theorem dX6_init_22 : decode cX6_init 22 = .ok (.aload_n 0, 1) := by decide +kernel
theorem dX6_init_23 : decode cX6_init 23 = .ok (.sipush 1536, 3) := by decide +kernel
theorem dX6_init_26 : decode cX6_init 26 = .ok (.newarray .boolean, 2) := by decide +kernel
theorem dX6_init_28 : decode cX6_init 28 = .ok (.putfield 18, 3) := by decide +kernel
theorem dX6_init_31 : decode cX6_init 31 = .ok (.aload_n 0, 1) := by decide +kernel
theorem dX6_init_32 : decode cX6_init 32 = .ok (.bipush 72, 2) := by decide +kernel
theorem dX6_init_34 : decode cX6_init 34 = .ok (.newarray .int, 2) := by decide +kernel
theorem dX6_init_36 : decode cX6_init 36 = .ok (.putfield 22, 3) := by decide +kernel
theorem dX6_init_39 : decode cX6_init 39 = .ok (.return_, 1) := by decide +kernel
theorem dX6_search_0 : decode cX6_search 0 = .ok (.aload_n 0, 1) := by decide +kernel
theorem dX6_search_1 : decode cX6_search 1 = .ok (.aload_n 1, 1) := by decide +kernel
theorem dX6_search_2 : decode cX6_search 2 = .ok (.getfield 25, 3) := by decide +kernel
theorem dX6_search_5 : decode cX6_search 5 = .ok (.iload_n 2, 1) := by decide +kernel
theorem dX6_search_6 : decode cX6_search 6 = .ok (.aaload, 1) := by decide +kernel
theorem dX6_search_7 : decode cX6_search 7 = .ok (.invokevirtual 31, 3) := by decide +kernel
theorem dX6_search_10 : decode cX6_search 10 = .ok (.iload_n 3, 1) := by decide +kernel
theorem dX6_search_11 : decode cX6_search 11 = .ok (.sipush 256, 3) := by decide +kernel
theorem dX6_search_14 : decode cX6_search 14 = .ok (.imul, 1) := by decide +kernel
theorem dX6_search_15 : decode cX6_search 15 = .ok (.istore 4, 2) := by decide +kernel
theorem dX6_search_17 : decode cX6_search 17 = .ok (.aload_n 0, 1) := by decide +kernel
theorem dX6_search_18 : decode cX6_search 18 = .ok (.getfield 9, 3) := by decide +kernel
theorem dX6_search_21 : decode cX6_search 21 = .ok (.iconst 0, 1) := by decide +kernel
theorem dX6_search_22 : decode cX6_search 22 = .ok (.iaload, 1) := by decide +kernel
theorem dX6_search_23 : decode cX6_search 23 = .ok (.iload 4, 2) := by decide +kernel
theorem dX6_search_25 : decode cX6_search 25 = .ok (.if_icmp .ne 7, 3) := by decide +kernel
theorem dX6_search_28 : decode cX6_search 28 = .ok (.iconst 1, 1) := by decide +kernel
theorem dX6_search_29 : decode cX6_search 29 = .ok (.goto 4, 3) := by decide +kernel
theorem dX6_search_32 : decode cX6_search 32 = .ok (.iconst 0, 1) := by decide +kernel
theorem dX6_search_33 : decode cX6_search 33 = .ok (.istore 5, 2) := by decide +kernel
theorem dX6_search_35 : decode cX6_search 35 = .ok (.iconst 0, 1) := by decide +kernel
theorem dX6_search_36 : decode cX6_search 36 = .ok (.istore 6, 2) := by decide +kernel
theorem dX6_search_38 : decode cX6_search 38 = .ok (.iconst 0, 1) := by decide +kernel
theorem dX6_search_39 : decode cX6_search 39 = .ok (.istore 7, 2) := by decide +kernel
theorem dX6_search_41 : decode cX6_search 41 = .ok (.iload 7, 2) := by decide +kernel
theorem dX6_search_43 : decode cX6_search 43 = .ok (.bipush 12, 2) := by decide +kernel
theorem dX6_search_45 : decode cX6_search 45 = .ok (.if_icmp .ge 215, 3) := by decide +kernel
theorem dX6_search_48 : decode cX6_search 48 = .ok (.iload 5, 2) := by decide +kernel
theorem dX6_search_50 : decode cX6_search 50 = .ok (.ifCond .ne 210, 3) := by decide +kernel
theorem dX6_search_53 : decode cX6_search 53 = .ok (.aload_n 0, 1) := by decide +kernel
theorem dX6_search_54 : decode cX6_search 54 = .ok (.getfield 35, 3) := by decide +kernel
theorem dX6_search_57 : decode cX6_search 57 = .ok (.istore 8, 2) := by decide +kernel
theorem dX6_search_59 : decode cX6_search 59 = .ok (.iload 6, 2) := by decide +kernel
theorem dX6_search_61 : decode cX6_search 61 = .ok (.iload 8, 2) := by decide +kernel
theorem dX6_search_63 : decode cX6_search 63 = .ok (.if_icmp .ge 191, 3) := by decide +kernel
theorem dX6_search_66 : decode cX6_search 66 = .ok (.iload 5, 2) := by decide +kernel
theorem dX6_search_68 : decode cX6_search 68 = .ok (.ifCond .ne 186, 3) := by decide +kernel
theorem dX6_search_71 : decode cX6_search 71 = .ok (.aload_n 0, 1) := by decide +kernel
theorem dX6_search_72 : decode cX6_search 72 = .ok (.getfield 9, 3) := by decide +kernel
theorem dX6_search_75 : decode cX6_search 75 = .ok (.iload 6, 2) := by decide +kernel
theorem dX6_search_77 : decode cX6_search 77 = .ok (.iaload, 1) := by decide +kernel
theorem dX6_search_78 : decode cX6_search 78 = .ok (.sipush 256, 3) := by decide +kernel
theorem dX6_search_81 : decode cX6_search 81 = .ok (.idiv, 1) := by decide +kernel
theorem dX6_search_82 : decode cX6_search 82 = .ok (.istore 9, 2) := by decide +kernel
theorem dX6_search_84 : decode cX6_search 84 = .ok (.aload_n 0, 1) := by decide +kernel
theorem dX6_search_85 : decode cX6_search 85 = .ok (.getfield 9, 3) := by decide +kernel
theorem dX6_search_88 : decode cX6_search 88 = .ok (.iload 6, 2) := by decide +kernel
theorem dX6_search_90 : decode cX6_search 90 = .ok (.iaload, 1) := by decide +kernel
theorem dX6_search_91 : decode cX6_search 91 = .ok (.sipush 256, 3) := by decide +kernel
theorem dX6_search_94 : decode cX6_search 94 = .ok (.irem, 1) := by decide +kernel
theorem dX6_search_95 : decode cX6_search 95 = .ok (.istore 10, 2) := by decide +kernel
theorem dX6_search_97 : decode cX6_search 97 = .ok (.iload 10, 2) := by decide +kernel
theorem dX6_search_99 : decode cX6_search 99 = .ok (.invokestatic 39, 3) := by decide +kernel
theorem dX6_search_102 : decode cX6_search 102 = .ok (.istore 11, 2) := by decide +kernel
theorem dX6_search_104 : decode cX6_search 104 = .ok (.iconst 0, 1) := by decide +kernel
theorem dX6_search_105 : decode cX6_search 105 = .ok (.istore 12, 2) := by decide +kernel
theorem dX6_search_107 : decode cX6_search 107 = .ok (.iload 12, 2) := by decide +kernel
theorem dX6_search_109 : decode cX6_search 109 = .ok (.aload_n 1, 1) := by decide +kernel
theorem dX6_search_110 : decode cX6_search 110 = .ok (.getfield 45, 3) := by decide +kernel
theorem dX6_search_113 : decode cX6_search 113 = .ok (.if_icmp .ge 135, 3) := by decide +kernel
theorem dX6_search_116 : decode cX6_search 116 = .ok (.iload 5, 2) := by decide +kernel
theorem dX6_search_118 : decode cX6_search 118 = .ok (.ifCond .ne 130, 3) := by decide +kernel
theorem dX6_search_121 : decode cX6_search 121 = .ok (.aload_n 1, 1) := by decide +kernel
theorem dX6_search_122 : decode cX6_search 122 = .ok (.iload 12, 2) := by decide +kernel
theorem dX6_search_124 : decode cX6_search 124 = .ok (.iload 9, 2) := by decide +kernel
theorem dX6_search_126 : decode cX6_search 126 = .ok (.invokevirtual 48, 3) := by decide +kernel
theorem dX6_search_129 : decode cX6_search 129 = .ok (.istore 13, 2) := by decide +kernel
theorem dX6_search_131 : decode cX6_search 131 = .ok (.iload 13, 2) := by decide +kernel
theorem dX6_search_133 : decode cX6_search 133 = .ok (.ifCond .ge 6, 3) := by decide +kernel
theorem dX6_search_136 : decode cX6_search 136 = .ok (.goto 106, 3) := by decide +kernel
theorem dX6_search_139 : decode cX6_search 139 = .ok (.iload 12, 2) := by decide +kernel
theorem dX6_search_141 : decode cX6_search 141 = .ok (.bipush 9, 2) := by decide +kernel
theorem dX6_search_143 : decode cX6_search 143 = .ok (.imul, 1) := by decide +kernel
theorem dX6_search_144 : decode cX6_search 144 = .ok (.iload 11, 2) := by decide +kernel
theorem dX6_search_146 : decode cX6_search 146 = .ok (.iadd, 1) := by decide +kernel
theorem dX6_search_147 : decode cX6_search 147 = .ok (.istore 14, 2) := by decide +kernel
theorem dX6_search_149 : decode cX6_search 149 = .ok (.aload_n 0, 1) := by decide +kernel
theorem dX6_search_150 : decode cX6_search 150 = .ok (.getfield 22, 3) := by decide +kernel
theorem dX6_search_153 : decode cX6_search 153 = .ok (.iload 14, 2) := by decide +kernel
theorem dX6_search_155 : decode cX6_search 155 = .ok (.iaload, 1) := by decide +kernel
theorem dX6_search_156 : decode cX6_search 156 = .ok (.ifCond .ne 27, 3) := by decide +kernel
theorem dX6_search_159 : decode cX6_search 159 = .ok (.aload_n 0, 1) := by decide +kernel
theorem dX6_search_160 : decode cX6_search 160 = .ok (.getfield 22, 3) := by decide +kernel
theorem dX6_search_163 : decode cX6_search 163 = .ok (.iload 14, 2) := by decide +kernel
theorem dX6_search_165 : decode cX6_search 165 = .ok (.aload_n 1, 1) := by decide +kernel
theorem dX6_search_166 : decode cX6_search 166 = .ok (.iload_n 2, 1) := by decide +kernel
theorem dX6_search_167 : decode cX6_search 167 = .ok (.iload 12, 2) := by decide +kernel
theorem dX6_search_169 : decode cX6_search 169 = .ok (.iload 11, 2) := by decide +kernel
theorem dX6_search_171 : decode cX6_search 171 = .ok (.invokevirtual 52, 3) := by decide +kernel
theorem dX6_search_174 : decode cX6_search 174 = .ok (.ifCond .eq 7, 3) := by decide +kernel
theorem dX6_search_177 : decode cX6_search 177 = .ok (.iconst 1, 1) := by decide +kernel
theorem dX6_search_178 : decode cX6_search 178 = .ok (.goto 4, 3) := by decide +kernel
theorem dX6_search_181 : decode cX6_search 181 = .ok (.iconst 2, 1) := by decide +kernel
theorem dX6_search_182 : decode cX6_search 182 = .ok (.iastore, 1) := by decide +kernel
theorem dX6_search_183 : decode cX6_search 183 = .ok (.aload_n 0, 1) := by decide +kernel
theorem dX6_search_184 : decode cX6_search 184 = .ok (.getfield 22, 3) := by decide +kernel
theorem dX6_search_187 : decode cX6_search 187 = .ok (.iload 14, 2) := by decide +kernel
theorem dX6_search_189 : decode cX6_search 189 = .ok (.iaload, 1) := by decide +kernel
theorem dX6_search_190 : decode cX6_search 190 = .ok (.iconst 1, 1) := by decide +kernel
theorem dX6_search_191 : decode cX6_search 191 = .ok (.if_icmp .ne 51, 3) := by decide +kernel
theorem dX6_search_194 : decode cX6_search 194 = .ok (.iload 13, 2) := by decide +kernel
theorem dX6_search_196 : decode cX6_search 196 = .ok (.sipush 256, 3) := by decide +kernel
theorem dX6_search_199 : decode cX6_search 199 = .ok (.imul, 1) := by decide +kernel
theorem dX6_search_200 : decode cX6_search 200 = .ok (.aload_n 1, 1) := by decide +kernel
theorem dX6_search_201 : decode cX6_search 201 = .ok (.iload 10, 2) := by decide +kernel
theorem dX6_search_203 : decode cX6_search 203 = .ok (.iload 12, 2) := by decide +kernel
theorem dX6_search_205 : decode cX6_search 205 = .ok (.invokevirtual 56, 3) := by decide +kernel
theorem dX6_search_208 : decode cX6_search 208 = .ok (.iadd, 1) := by decide +kernel
theorem dX6_search_209 : decode cX6_search 209 = .ok (.istore 15, 2) := by decide +kernel
theorem dX6_search_211 : decode cX6_search 211 = .ok (.aload_n 0, 1) := by decide +kernel
theorem dX6_search_212 : decode cX6_search 212 = .ok (.iload 15, 2) := by decide +kernel
theorem dX6_search_214 : decode cX6_search 214 = .ok (.iload 6, 2) := by decide +kernel
theorem dX6_search_216 : decode cX6_search 216 = .ok (.bipush 8, 2) := by decide +kernel
theorem dX6_search_218 : decode cX6_search 218 = .ok (.imul, 1) := by decide +kernel
theorem dX6_search_219 : decode cX6_search 219 = .ok (.iload 12, 2) := by decide +kernel
theorem dX6_search_221 : decode cX6_search 221 = .ok (.iadd, 1) := by decide +kernel
theorem dX6_search_222 : decode cX6_search 222 = .ok (.invokevirtual 59, 3) := by decide +kernel
theorem dX6_search_225 : decode cX6_search 225 = .ok (.ifCond .eq 14, 3) := by decide +kernel
theorem dX6_search_228 : decode cX6_search 228 = .ok (.iload 15, 2) := by decide +kernel
theorem dX6_search_230 : decode cX6_search 230 = .ok (.iload 4, 2) := by decide +kernel
theorem dX6_search_232 : decode cX6_search 232 = .ok (.if_icmp .ne 7, 3) := by decide +kernel
theorem dX6_search_235 : decode cX6_search 235 = .ok (.iconst 1, 1) := by decide +kernel
theorem dX6_search_236 : decode cX6_search 236 = .ok (.goto 4, 3) := by decide +kernel
theorem dX6_search_239 : decode cX6_search 239 = .ok (.iconst 0, 1) := by decide +kernel
theorem dX6_search_240 : decode cX6_search 240 = .ok (.istore 5, 2) := by decide +kernel
theorem dX6_search_242 : decode cX6_search 242 = .ok (.iinc 12 1, 3) := by decide +kernel
theorem dX6_search_245 : decode cX6_search 245 = .ok (.goto (-138), 3) := by decide +kernel
theorem dX6_search_248 : decode cX6_search 248 = .ok (.iinc 6 1, 3) := by decide +kernel
theorem dX6_search_251 : decode cX6_search 251 = .ok (.goto (-192), 3) := by decide +kernel
theorem dX6_search_254 : decode cX6_search 254 = .ok (.iinc 7 1, 3) := by decide +kernel
theorem dX6_search_257 : decode cX6_search 257 = .ok (.goto (-216), 3) := by decide +kernel
theorem dX6_search_260 : decode cX6_search 260 = .ok (.aload_n 0, 1) := by decide +kernel
theorem dX6_search_261 : decode cX6_search 261 = .ok (.iload 5, 2) := by decide +kernel
theorem dX6_search_263 : decode cX6_search 263 = .ok (.ifCond .eq 8, 3) := by decide +kernel
theorem dX6_search_266 : decode cX6_search 266 = .ok (.iload 7, 2) := by decide +kernel
theorem dX6_search_268 : decode cX6_search 268 = .ok (.goto 5, 3) := by decide +kernel
theorem dX6_search_271 : decode cX6_search 271 = .ok (.bipush (-5), 2) := by decide +kernel
theorem dX6_search_273 : decode cX6_search 273 = .ok (.putfield 63, 3) := by decide +kernel
theorem dX6_search_276 : decode cX6_search 276 = .ok (.aload_n 0, 1) := by decide +kernel
theorem dX6_search_277 : decode cX6_search 277 = .ok (.getfield 63, 3) := by decide +kernel
theorem dX6_search_280 : decode cX6_search 280 = .ok (.ireturn, 1) := by decide +kernel
theorem dX6_stepAt_0 : decode cX6_stepAt 0 = .ok (.iload_n 1, 1) := by decide +kernel
theorem dX6_stepAt_1 : decode cX6_stepAt 1 = .ok (.ifCond .lt 11, 3) := by decide +kernel
theorem dX6_stepAt_4 : decode cX6_stepAt 4 = .ok (.iload_n 1, 1) := by decide +kernel
theorem dX6_stepAt_5 : decode cX6_stepAt 5 = .ok (.aload_n 0, 1) := by decide +kernel
theorem dX6_stepAt_6 : decode cX6_stepAt 6 = .ok (.getfield 63, 3) := by decide +kernel
theorem dX6_stepAt_9 : decode cX6_stepAt 9 = .ok (.if_icmp .lt 6, 3) := by decide +kernel
theorem dX6_stepAt_12 : decode cX6_stepAt 12 = .ok (.bipush (-5), 2) := by decide +kernel
theorem dX6_stepAt_14 : decode cX6_stepAt 14 = .ok (.ireturn, 1) := by decide +kernel
theorem dX6_stepAt_15 : decode cX6_stepAt 15 = .ok (.aload_n 0, 1) := by decide +kernel
theorem dX6_stepAt_16 : decode cX6_stepAt 16 = .ok (.getfield 35, 3) := by decide +kernel
theorem dX6_stepAt_19 : decode cX6_stepAt 19 = .ok (.iconst 1, 1) := by decide +kernel
theorem dX6_stepAt_20 : decode cX6_stepAt 20 = .ok (.isub, 1) := by decide +kernel
theorem dX6_stepAt_21 : decode cX6_stepAt 21 = .ok (.istore_n 2, 1) := by decide +kernel
theorem dX6_stepAt_22 : decode cX6_stepAt 22 = .ok (.aload_n 0, 1) := by decide +kernel
theorem dX6_stepAt_23 : decode cX6_stepAt 23 = .ok (.getfield 63, 3) := by decide +kernel
theorem dX6_stepAt_26 : decode cX6_stepAt 26 = .ok (.iconst 1, 1) := by decide +kernel
theorem dX6_stepAt_27 : decode cX6_stepAt 27 = .ok (.isub, 1) := by decide +kernel
theorem dX6_stepAt_28 : decode cX6_stepAt 28 = .ok (.istore_n 3, 1) := by decide +kernel
theorem dX6_stepAt_29 : decode cX6_stepAt 29 = .ok (.iload_n 3, 1) := by decide +kernel
theorem dX6_stepAt_30 : decode cX6_stepAt 30 = .ok (.iload_n 1, 1) := by decide +kernel
theorem dX6_stepAt_31 : decode cX6_stepAt 31 = .ok (.if_icmp .le 19, 3) := by decide +kernel
theorem dX6_stepAt_34 : decode cX6_stepAt 34 = .ok (.aload_n 0, 1) := by decide +kernel
theorem dX6_stepAt_35 : decode cX6_stepAt 35 = .ok (.getfield 15, 3) := by decide +kernel
theorem dX6_stepAt_38 : decode cX6_stepAt 38 = .ok (.iload_n 2, 1) := by decide +kernel
theorem dX6_stepAt_39 : decode cX6_stepAt 39 = .ok (.iaload, 1) := by decide +kernel
theorem dX6_stepAt_40 : decode cX6_stepAt 40 = .ok (.bipush 8, 2) := by decide +kernel
theorem dX6_stepAt_42 : decode cX6_stepAt 42 = .ok (.idiv, 1) := by decide +kernel
theorem dX6_stepAt_43 : decode cX6_stepAt 43 = .ok (.istore_n 2, 1) := by decide +kernel
theorem dX6_stepAt_44 : decode cX6_stepAt 44 = .ok (.iinc 3 (-1), 3) := by decide +kernel
theorem dX6_stepAt_47 : decode cX6_stepAt 47 = .ok (.goto (-18), 3) := by decide +kernel
theorem dX6_stepAt_50 : decode cX6_stepAt 50 = .ok (.aload_n 0, 1) := by decide +kernel
theorem dX6_stepAt_51 : decode cX6_stepAt 51 = .ok (.getfield 15, 3) := by decide +kernel
theorem dX6_stepAt_54 : decode cX6_stepAt 54 = .ok (.iload_n 2, 1) := by decide +kernel
theorem dX6_stepAt_55 : decode cX6_stepAt 55 = .ok (.iaload, 1) := by decide +kernel
theorem dX6_stepAt_56 : decode cX6_stepAt 56 = .ok (.bipush 8, 2) := by decide +kernel
theorem dX6_stepAt_58 : decode cX6_stepAt 58 = .ok (.irem, 1) := by decide +kernel
theorem dX6_stepAt_59 : decode cX6_stepAt 59 = .ok (.ireturn, 1) := by decide +kernel
theorem dX6_reachable_0 : decode cX6_reachable 0 = .ok (.aload_n 0, 1) := by decide +kernel
theorem dX6_reachable_1 : decode cX6_reachable 1 = .ok (.aload_n 1, 1) := by decide +kernel
theorem dX6_reachable_2 : decode cX6_reachable 2 = .ok (.iload_n 2, 1) := by decide +kernel
theorem dX6_reachable_3 : decode cX6_reachable 3 = .ok (.iconst (-1), 1) := by decide +kernel
theorem dX6_reachable_4 : decode cX6_reachable 4 = .ok (.invokevirtual 66, 3) := by decide +kernel
theorem dX6_reachable_7 : decode cX6_reachable 7 = .ok (.pop, 1) := by decide +kernel
theorem dX6_reachable_8 : decode cX6_reachable 8 = .ok (.iconst 0, 1) := by decide +kernel
theorem dX6_reachable_9 : decode cX6_reachable 9 = .ok (.istore_n 3, 1) := by decide +kernel
theorem dX6_reachable_10 : decode cX6_reachable 10 = .ok (.iconst 0, 1) := by decide +kernel
theorem dX6_reachable_11 : decode cX6_reachable 11 = .ok (.istore 4, 2) := by decide +kernel
theorem dX6_reachable_13 : decode cX6_reachable 13 = .ok (.iload 4, 2) := by decide +kernel
theorem dX6_reachable_15 : decode cX6_reachable 15 = .ok (.bipush 6, 2) := by decide +kernel
theorem dX6_reachable_17 : decode cX6_reachable 17 = .ok (.if_icmp .ge 30, 3) := by decide +kernel
theorem dX6_reachable_20 : decode cX6_reachable 20 = .ok (.aload_n 0, 1) := by decide +kernel
theorem dX6_reachable_21 : decode cX6_reachable 21 = .ok (.getfield 18, 3) := by decide +kernel
theorem dX6_reachable_24 : decode cX6_reachable 24 = .ok (.iload 4, 2) := by decide +kernel
theorem dX6_reachable_26 : decode cX6_reachable 26 = .ok (.sipush 256, 3) := by decide +kernel
theorem dX6_reachable_29 : decode cX6_reachable 29 = .ok (.imul, 1) := by decide +kernel
theorem dX6_reachable_30 : decode cX6_reachable 30 = .ok (.baload, 1) := by decide +kernel
theorem dX6_reachable_31 : decode cX6_reachable 31 = .ok (.ifCond .eq 10, 3) := by decide +kernel
theorem dX6_reachable_34 : decode cX6_reachable 34 = .ok (.iload_n 3, 1) := by decide +kernel
theorem dX6_reachable_35 : decode cX6_reachable 35 = .ok (.iconst 1, 1) := by decide +kernel
theorem dX6_reachable_36 : decode cX6_reachable 36 = .ok (.iload 4, 2) := by decide +kernel
theorem dX6_reachable_38 : decode cX6_reachable 38 = .ok (.ishl, 1) := by decide +kernel
theorem dX6_reachable_39 : decode cX6_reachable 39 = .ok (.ior, 1) := by decide +kernel
theorem dX6_reachable_40 : decode cX6_reachable 40 = .ok (.istore_n 3, 1) := by decide +kernel
theorem dX6_reachable_41 : decode cX6_reachable 41 = .ok (.iinc 4 1, 3) := by decide +kernel
theorem dX6_reachable_44 : decode cX6_reachable 44 = .ok (.goto (-31), 3) := by decide +kernel
theorem dX6_reachable_47 : decode cX6_reachable 47 = .ok (.iload_n 3, 1) := by decide +kernel
theorem dX6_reachable_48 : decode cX6_reachable 48 = .ok (.ireturn, 1) := by decide +kernel
theorem dX6_begin_0 : decode cX6_begin 0 = .ok (.iconst 0, 1) := by decide +kernel
theorem dX6_begin_1 : decode cX6_begin 1 = .ok (.istore_n 2, 1) := by decide +kernel
theorem dX6_begin_2 : decode cX6_begin 2 = .ok (.iload_n 2, 1) := by decide +kernel
theorem dX6_begin_3 : decode cX6_begin 3 = .ok (.aload_n 0, 1) := by decide +kernel
theorem dX6_begin_4 : decode cX6_begin 4 = .ok (.getfield 35, 3) := by decide +kernel
theorem dX6_begin_7 : decode cX6_begin 7 = .ok (.if_icmp .ge 21, 3) := by decide +kernel
theorem dX6_begin_10 : decode cX6_begin 10 = .ok (.aload_n 0, 1) := by decide +kernel
theorem dX6_begin_11 : decode cX6_begin 11 = .ok (.getfield 18, 3) := by decide +kernel
theorem dX6_begin_14 : decode cX6_begin 14 = .ok (.aload_n 0, 1) := by decide +kernel
theorem dX6_begin_15 : decode cX6_begin 15 = .ok (.getfield 9, 3) := by decide +kernel
theorem dX6_begin_18 : decode cX6_begin 18 = .ok (.iload_n 2, 1) := by decide +kernel
theorem dX6_begin_19 : decode cX6_begin 19 = .ok (.iaload, 1) := by decide +kernel
theorem dX6_begin_20 : decode cX6_begin 20 = .ok (.iconst 0, 1) := by decide +kernel
theorem dX6_begin_21 : decode cX6_begin 21 = .ok (.bastore, 1) := by decide +kernel
theorem dX6_begin_22 : decode cX6_begin 22 = .ok (.iinc 2 1, 3) := by decide +kernel
theorem dX6_begin_25 : decode cX6_begin 25 = .ok (.goto (-23), 3) := by decide +kernel
theorem dX6_begin_28 : decode cX6_begin 28 = .ok (.aload_n 0, 1) := by decide +kernel
theorem dX6_begin_29 : decode cX6_begin 29 = .ok (.getfield 22, 3) := by decide +kernel
theorem dX6_begin_32 : decode cX6_begin 32 = .ok (.iconst 0, 1) := by decide +kernel
theorem dX6_begin_33 : decode cX6_begin 33 = .ok (.invokestatic 70, 3) := by decide +kernel
theorem dX6_begin_36 : decode cX6_begin 36 = .ok (.aload_n 0, 1) := by decide +kernel
theorem dX6_begin_37 : decode cX6_begin 37 = .ok (.iconst 0, 1) := by decide +kernel
theorem dX6_begin_38 : decode cX6_begin 38 = .ok (.putfield 35, 3) := by decide +kernel
theorem dX6_begin_41 : decode cX6_begin 41 = .ok (.aload_n 0, 1) := by decide +kernel
theorem dX6_begin_42 : decode cX6_begin 42 = .ok (.aload_n 1, 1) := by decide +kernel
theorem dX6_begin_43 : decode cX6_begin 43 = .ok (.getfield 76, 3) := by decide +kernel
theorem dX6_begin_46 : decode cX6_begin 46 = .ok (.sipush 256, 3) := by decide +kernel
theorem dX6_begin_49 : decode cX6_begin 49 = .ok (.imul, 1) := by decide +kernel
theorem dX6_begin_50 : decode cX6_begin 50 = .ok (.aload_n 1, 1) := by decide +kernel
theorem dX6_begin_51 : decode cX6_begin 51 = .ok (.getfield 81, 3) := by decide +kernel
theorem dX6_begin_54 : decode cX6_begin 54 = .ok (.iadd, 1) := by decide +kernel
theorem dX6_begin_55 : decode cX6_begin 55 = .ok (.iconst 0, 1) := by decide +kernel
theorem dX6_begin_56 : decode cX6_begin 56 = .ok (.invokevirtual 59, 3) := by decide +kernel
theorem dX6_begin_59 : decode cX6_begin 59 = .ok (.pop, 1) := by decide +kernel
theorem dX6_begin_60 : decode cX6_begin 60 = .ok (.return_, 1) := by decide +kernel
theorem dX6_meet_0 : decode cX6_meet 0 = .ok (.aload_n 0, 1) := by decide +kernel
theorem dX6_meet_1 : decode cX6_meet 1 = .ok (.getfield 18, 3) := by decide +kernel
theorem dX6_meet_4 : decode cX6_meet 4 = .ok (.iload_n 1, 1) := by decide +kernel
theorem dX6_meet_5 : decode cX6_meet 5 = .ok (.baload, 1) := by decide +kernel
theorem dX6_meet_6 : decode cX6_meet 6 = .ok (.ifCond .ne 13, 3) := by decide +kernel
theorem dX6_meet_9 : decode cX6_meet 9 = .ok (.aload_n 0, 1) := by decide +kernel
theorem dX6_meet_10 : decode cX6_meet 10 = .ok (.getfield 35, 3) := by decide +kernel
theorem dX6_meet_13 : decode cX6_meet 13 = .ok (.sipush 1536, 3) := by decide +kernel
theorem dX6_meet_16 : decode cX6_meet 16 = .ok (.if_icmp .lt 5, 3) := by decide +kernel
theorem dX6_meet_19 : decode cX6_meet 19 = .ok (.iconst 0, 1) := by decide +kernel
theorem dX6_meet_20 : decode cX6_meet 20 = .ok (.ireturn, 1) := by decide +kernel
theorem dX6_meet_21 : decode cX6_meet 21 = .ok (.aload_n 0, 1) := by decide +kernel
theorem dX6_meet_22 : decode cX6_meet 22 = .ok (.getfield 18, 3) := by decide +kernel
theorem dX6_meet_25 : decode cX6_meet 25 = .ok (.iload_n 1, 1) := by decide +kernel
theorem dX6_meet_26 : decode cX6_meet 26 = .ok (.iconst 1, 1) := by decide +kernel
theorem dX6_meet_27 : decode cX6_meet 27 = .ok (.bastore, 1) := by decide +kernel
theorem dX6_meet_28 : decode cX6_meet 28 = .ok (.aload_n 0, 1) := by decide +kernel
theorem dX6_meet_29 : decode cX6_meet 29 = .ok (.getfield 9, 3) := by decide +kernel
theorem dX6_meet_32 : decode cX6_meet 32 = .ok (.aload_n 0, 1) := by decide +kernel
theorem dX6_meet_33 : decode cX6_meet 33 = .ok (.getfield 35, 3) := by decide +kernel
theorem dX6_meet_36 : decode cX6_meet 36 = .ok (.iload_n 1, 1) := by decide +kernel
theorem dX6_meet_37 : decode cX6_meet 37 = .ok (.iastore, 1) := by decide +kernel
theorem dX6_meet_38 : decode cX6_meet 38 = .ok (.aload_n 0, 1) := by decide +kernel
theorem dX6_meet_39 : decode cX6_meet 39 = .ok (.getfield 15, 3) := by decide +kernel
theorem dX6_meet_42 : decode cX6_meet 42 = .ok (.aload_n 0, 1) := by decide +kernel
theorem dX6_meet_43 : decode cX6_meet 43 = .ok (.getfield 35, 3) := by decide +kernel
theorem dX6_meet_46 : decode cX6_meet 46 = .ok (.iload_n 2, 1) := by decide +kernel
theorem dX6_meet_47 : decode cX6_meet 47 = .ok (.iastore, 1) := by decide +kernel
theorem dX6_meet_48 : decode cX6_meet 48 = .ok (.aload_n 0, 1) := by decide +kernel
theorem dX6_meet_49 : decode cX6_meet 49 = .ok (.dup, 1) := by decide +kernel
theorem dX6_meet_50 : decode cX6_meet 50 = .ok (.getfield 35, 3) := by decide +kernel
theorem dX6_meet_53 : decode cX6_meet 53 = .ok (.iconst 1, 1) := by decide +kernel
theorem dX6_meet_54 : decode cX6_meet 54 = .ok (.iadd, 1) := by decide +kernel
theorem dX6_meet_55 : decode cX6_meet 55 = .ok (.putfield 35, 3) := by decide +kernel
theorem dX6_meet_58 : decode cX6_meet 58 = .ok (.iconst 1, 1) := by decide +kernel
theorem dX6_meet_59 : decode cX6_meet 59 = .ok (.ireturn, 1) := by decide +kernel
theorem dX7_init_0 : decode cX7_init 0 = .ok (.aload_n 0, 1) := by decide +kernel
theorem dX7_init_1 : decode cX7_init 1 = .ok (.invokespecial 3, 3) := by decide +kernel
theorem dX7_init_4 : decode cX7_init 4 = .ok (.aload_n 0, 1) := by decide +kernel
theorem dX7_init_5 : decode cX7_init 5 = .ok (.bipush 8, 2) := by decide +kernel
theorem dX7_init_7 : decode cX7_init 7 = .ok (.newarray .int, 2) := by decide +kernel
theorem dX7_init_9 : decode cX7_init 9 = .ok (.putfield 9, 3) := by decide +kernel
theorem dX7_init_12 : decode cX7_init 12 = .ok (.aload_n 0, 1) := by decide +kernel
theorem dX7_init_13 : decode cX7_init 13 = .ok (.bipush 8, 2) := by decide +kernel
theorem dX7_init_15 : decode cX7_init 15 = .ok (.newarray .int, 2) := by decide +kernel
theorem dX7_init_17 : decode cX7_init 17 = .ok (.putfield 15, 3) := by decide +kernel
theorem dX7_init_20 : decode cX7_init 20 = .ok (.aload_n 0, 1) := by decide +kernel
theorem dX7_init_21 : decode cX7_init 21 = .ok (.bipush 8, 2) := by decide +kernel
theorem dX7_init_23 : decode cX7_init 23 = .ok (.newarray .int, 2) := by decide +kernel
theorem dX7_init_25 : decode cX7_init 25 = .ok (.putfield 18, 3) := by decide +kernel
theorem dX7_init_28 : decode cX7_init 28 = .ok (.aload_n 0, 1) := by decide +kernel
theorem dX7_init_29 : decode cX7_init 29 = .ok (.bipush 6, 2) := by decide +kernel
theorem dX7_init_31 : decode cX7_init 31 = .ok (.anewarray 21, 3) := by decide +kernel
theorem dX7_init_34 : decode cX7_init 34 = .ok (.putfield 23, 3) := by decide +kernel
theorem dX7_init_37 : decode cX7_init 37 = .ok (.aload_n 0, 1) := by decide +kernel
theorem dX7_init_38 : decode cX7_init 38 = .ok (.new 27, 3) := by decide +kernel
theorem dX7_init_41 : decode cX7_init 41 = .ok (.dup, 1) := by decide +kernel
theorem dX7_init_42 : decode cX7_init 42 = .ok (.iconst 5, 1) := by decide +kernel
theorem dX7_init_43 : decode cX7_init 43 = .ok (.invokespecial 29, 3) := by decide +kernel
theorem dX7_init_46 : decode cX7_init 46 = .ok (.putfield 32, 3) := by decide +kernel
theorem dX7_init_49 : decode cX7_init 49 = .ok (.aload_n 0, 1) := by decide +kernel
theorem dX7_init_50 : decode cX7_init 50 = .ok (.new 27, 3) := by decide +kernel
theorem dX7_init_53 : decode cX7_init 53 = .ok (.dup, 1) := by decide +kernel
theorem dX7_init_54 : decode cX7_init 54 = .ok (.bipush 8, 2) := by decide +kernel
theorem dX7_init_56 : decode cX7_init 56 = .ok (.invokespecial 29, 3) := by decide +kernel
theorem dX7_init_59 : decode cX7_init 59 = .ok (.putfield 36, 3) := by decide +kernel
theorem dX7_init_62 : decode cX7_init 62 = .ok (.aload_n 0, 1) := by decide +kernel
theorem dX7_init_63 : decode cX7_init 63 = .ok (.new 27, 3) := by decide +kernel
theorem dX7_init_66 : decode cX7_init 66 = .ok (.dup, 1) := by decide +kernel
theorem dX7_init_67 : decode cX7_init 67 = .ok (.bipush 8, 2) := by decide +kernel
theorem dX7_init_69 : decode cX7_init 69 = .ok (.invokespecial 29, 3) := by decide +kernel
theorem dX7_init_72 : decode cX7_init 72 = .ok (.putfield 39, 3) := by decide +kernel
theorem dX7_init_75 : decode cX7_init 75 = .ok (.iconst 0, 1) := by decide +kernel
theorem dX7_init_76 : decode cX7_init 76 = .ok (.istore_n 1, 1) := by decide +kernel
theorem dX7_init_77 : decode cX7_init 77 = .ok (.iload_n 1, 1) := by decide +kernel
theorem dX7_init_78 : decode cX7_init 78 = .ok (.bipush 6, 2) := by decide +kernel
theorem dX7_init_80 : decode cX7_init 80 = .ok (.if_icmp .ge 22, 3) := by decide +kernel
theorem dX7_init_83 : decode cX7_init 83 = .ok (.aload_n 0, 1) := by decide +kernel
theorem dX7_init_84 : decode cX7_init 84 = .ok (.getfield 23, 3) := by decide +kernel
theorem dX7_init_87 : decode cX7_init 87 = .ok (.iload_n 1, 1) := by decide +kernel
theorem dX7_init_88 : decode cX7_init 88 = .ok (.new 21, 3) := by decide +kernel
theorem dX7_init_91 : decode cX7_init 91 = .ok (.dup, 1) := by decide +kernel
theorem dX7_init_92 : decode cX7_init 92 = .ok (.invokespecial 42, 3) := by decide +kernel
theorem dX7_init_95 : decode cX7_init 95 = .ok (.aastore, 1) := by decide +kernel
theorem dX7_init_96 : decode cX7_init 96 = .ok (.iinc 1 1, 3) := by decide +kernel
theorem dX7_init_99 : decode cX7_init 99 = .ok (.goto (-22), 3) := by decide +kernel
theorem dX7_init_102 : decode cX7_init 102 = .ok (.return_, 1) := by decide +kernel
theorem dX7_copyFrom_0 : decode cX7_copyFrom 0 = .ok (.aload_n 0, 1) := by decide +kernel
theorem dX7_copyFrom_1 : decode cX7_copyFrom 1 = .ok (.aload_n 1, 1) := by decide +kernel
theorem dX7_copyFrom_2 : decode cX7_copyFrom 2 = .ok (.getfield 43, 3) := by decide +kernel
theorem dX7_copyFrom_5 : decode cX7_copyFrom 5 = .ok (.putfield 43, 3) := by decide +kernel
theorem dX7_copyFrom_8 : decode cX7_copyFrom 8 = .ok (.aload_n 1, 1) := by decide +kernel
theorem dX7_copyFrom_9 : decode cX7_copyFrom 9 = .ok (.getfield 9, 3) := by decide +kernel
theorem dX7_copyFrom_12 : decode cX7_copyFrom 12 = .ok (.iconst 0, 1) := by decide +kernel
theorem dX7_copyFrom_13 : decode cX7_copyFrom 13 = .ok (.aload_n 0, 1) := by decide +kernel
theorem dX7_copyFrom_14 : decode cX7_copyFrom 14 = .ok (.getfield 9, 3) := by decide +kernel
theorem dX7_copyFrom_17 : decode cX7_copyFrom 17 = .ok (.iconst 0, 1) := by decide +kernel
theorem dX7_copyFrom_18 : decode cX7_copyFrom 18 = .ok (.bipush 8, 2) := by decide +kernel
theorem dX7_copyFrom_20 : decode cX7_copyFrom 20 = .ok (.invokestatic 47, 3) := by decide +kernel
theorem dX7_copyFrom_23 : decode cX7_copyFrom 23 = .ok (.aload_n 1, 1) := by decide +kernel
theorem dX7_copyFrom_24 : decode cX7_copyFrom 24 = .ok (.getfield 15, 3) := by decide +kernel
theorem dX7_copyFrom_27 : decode cX7_copyFrom 27 = .ok (.iconst 0, 1) := by decide +kernel
theorem dX7_copyFrom_28 : decode cX7_copyFrom 28 = .ok (.aload_n 0, 1) := by decide +kernel
theorem dX7_copyFrom_29 : decode cX7_copyFrom 29 = .ok (.getfield 15, 3) := by decide +kernel
theorem dX7_copyFrom_32 : decode cX7_copyFrom 32 = .ok (.iconst 0, 1) := by decide +kernel
theorem dX7_copyFrom_33 : decode cX7_copyFrom 33 = .ok (.bipush 8, 2) := by decide +kernel
theorem dX7_copyFrom_35 : decode cX7_copyFrom 35 = .ok (.invokestatic 47, 3) := by decide +kernel
theorem dX7_copyFrom_38 : decode cX7_copyFrom 38 = .ok (.aload_n 1, 1) := by decide +kernel
theorem dX7_copyFrom_39 : decode cX7_copyFrom 39 = .ok (.getfield 18, 3) := by decide +kernel
theorem dX7_copyFrom_42 : decode cX7_copyFrom 42 = .ok (.iconst 0, 1) := by decide +kernel
theorem dX7_copyFrom_43 : decode cX7_copyFrom 43 = .ok (.aload_n 0, 1) := by decide +kernel
theorem dX7_copyFrom_44 : decode cX7_copyFrom 44 = .ok (.getfield 18, 3) := by decide +kernel
theorem dX7_copyFrom_47 : decode cX7_copyFrom 47 = .ok (.iconst 0, 1) := by decide +kernel
theorem dX7_copyFrom_48 : decode cX7_copyFrom 48 = .ok (.bipush 8, 2) := by decide +kernel
theorem dX7_copyFrom_50 : decode cX7_copyFrom 50 = .ok (.invokestatic 47, 3) := by decide +kernel
theorem dX7_copyFrom_53 : decode cX7_copyFrom 53 = .ok (.aload_n 0, 1) := by decide +kernel
theorem dX7_copyFrom_54 : decode cX7_copyFrom 54 = .ok (.aload_n 1, 1) := by decide +kernel
theorem dX7_copyFrom_55 : decode cX7_copyFrom 55 = .ok (.getfield 53, 3) := by decide +kernel
theorem dX7_copyFrom_58 : decode cX7_copyFrom 58 = .ok (.putfield 53, 3) := by decide +kernel
theorem dX7_copyFrom_61 : decode cX7_copyFrom 61 = .ok (.aload_n 0, 1) := by decide +kernel
theorem dX7_copyFrom_62 : decode cX7_copyFrom 62 = .ok (.aload_n 1, 1) := by decide +kernel
theorem dX7_copyFrom_63 : decode cX7_copyFrom 63 = .ok (.getfield 56, 3) := by decide +kernel
theorem dX7_copyFrom_66 : decode cX7_copyFrom 66 = .ok (.putfield 56, 3) := by decide +kernel
theorem dX7_copyFrom_69 : decode cX7_copyFrom 69 = .ok (.iconst 0, 1) := by decide +kernel
theorem dX7_copyFrom_70 : decode cX7_copyFrom 70 = .ok (.istore_n 2, 1) := by decide +kernel
theorem dX7_copyFrom_71 : decode cX7_copyFrom 71 = .ok (.iload_n 2, 1) := by decide +kernel
theorem dX7_copyFrom_72 : decode cX7_copyFrom 72 = .ok (.aload_n 0, 1) := by decide +kernel
theorem dX7_copyFrom_73 : decode cX7_copyFrom 73 = .ok (.getfield 56, 3) := by decide +kernel
theorem dX7_copyFrom_76 : decode cX7_copyFrom 76 = .ok (.if_icmp .ge 24, 3) := by decide +kernel
theorem dX7_copyFrom_79 : decode cX7_copyFrom 79 = .ok (.aload_n 0, 1) := by decide +kernel
theorem dX7_copyFrom_80 : decode cX7_copyFrom 80 = .ok (.getfield 23, 3) := by decide +kernel
theorem dX7_copyFrom_83 : decode cX7_copyFrom 83 = .ok (.iload_n 2, 1) := by decide +kernel
theorem dX7_copyFrom_84 : decode cX7_copyFrom 84 = .ok (.aaload, 1) := by decide +kernel
theorem dX7_copyFrom_85 : decode cX7_copyFrom 85 = .ok (.aload_n 1, 1) := by decide +kernel
theorem dX7_copyFrom_86 : decode cX7_copyFrom 86 = .ok (.getfield 23, 3) := by decide +kernel
theorem dX7_copyFrom_89 : decode cX7_copyFrom 89 = .ok (.iload_n 2, 1) := by decide +kernel
theorem dX7_copyFrom_90 : decode cX7_copyFrom 90 = .ok (.aaload, 1) := by decide +kernel
theorem dX7_copyFrom_91 : decode cX7_copyFrom 91 = .ok (.invokevirtual 59, 3) := by decide +kernel
theorem dX7_copyFrom_94 : decode cX7_copyFrom 94 = .ok (.iinc 2 1, 3) := by decide +kernel
theorem dX7_copyFrom_97 : decode cX7_copyFrom 97 = .ok (.goto (-26), 3) := by decide +kernel
theorem dX7_copyFrom_100 : decode cX7_copyFrom 100 = .ok (.aload_n 0, 1) := by decide +kernel
theorem dX7_copyFrom_101 : decode cX7_copyFrom 101 = .ok (.aload_n 1, 1) := by decide +kernel
theorem dX7_copyFrom_102 : decode cX7_copyFrom 102 = .ok (.getfield 63, 3) := by decide +kernel
theorem dX7_copyFrom_105 : decode cX7_copyFrom 105 = .ok (.putfield 63, 3) := by decide +kernel
theorem dX7_copyFrom_108 : decode cX7_copyFrom 108 = .ok (.aload_n 0, 1) := by decide +kernel
theorem dX7_copyFrom_109 : decode cX7_copyFrom 109 = .ok (.aload_n 1, 1) := by decide +kernel
theorem dX7_copyFrom_110 : decode cX7_copyFrom 110 = .ok (.getfield 66, 3) := by decide +kernel
theorem dX7_copyFrom_113 : decode cX7_copyFrom 113 = .ok (.putfield 66, 3) := by decide +kernel
theorem dX7_copyFrom_116 : decode cX7_copyFrom 116 = .ok (.aload_n 0, 1) := by decide +kernel
theorem dX7_copyFrom_117 : decode cX7_copyFrom 117 = .ok (.getfield 32, 3) := by decide +kernel
theorem dX7_copyFrom_120 : decode cX7_copyFrom 120 = .ok (.aload_n 1, 1) := by decide +kernel
theorem dX7_copyFrom_121 : decode cX7_copyFrom 121 = .ok (.getfield 32, 3) := by decide +kernel
theorem dX7_copyFrom_124 : decode cX7_copyFrom 124 = .ok (.invokevirtual 70, 3) := by decide +kernel
theorem dX7_copyFrom_127 : decode cX7_copyFrom 127 = .ok (.aload_n 0, 1) := by decide +kernel
theorem dX7_copyFrom_128 : decode cX7_copyFrom 128 = .ok (.getfield 36, 3) := by decide +kernel
theorem dX7_copyFrom_131 : decode cX7_copyFrom 131 = .ok (.aload_n 1, 1) := by decide +kernel
theorem dX7_copyFrom_132 : decode cX7_copyFrom 132 = .ok (.getfield 36, 3) := by decide +kernel
theorem dX7_copyFrom_135 : decode cX7_copyFrom 135 = .ok (.invokevirtual 70, 3) := by decide +kernel
theorem dX7_copyFrom_138 : decode cX7_copyFrom 138 = .ok (.aload_n 0, 1) := by decide +kernel
theorem dX7_copyFrom_139 : decode cX7_copyFrom 139 = .ok (.getfield 39, 3) := by decide +kernel
theorem dX7_copyFrom_142 : decode cX7_copyFrom 142 = .ok (.aload_n 1, 1) := by decide +kernel
theorem dX7_copyFrom_143 : decode cX7_copyFrom 143 = .ok (.getfield 39, 3) := by decide +kernel
theorem dX7_copyFrom_146 : decode cX7_copyFrom 146 = .ok (.invokevirtual 70, 3) := by decide +kernel
theorem dX7_copyFrom_149 : decode cX7_copyFrom 149 = .ok (.return_, 1) := by decide +kernel
theorem dX7_addBridge_0 : decode cX7_addBridge 0 = .ok (.aload_n 0, 1) := by decide +kernel
theorem dX7_addBridge_1 : decode cX7_addBridge 1 = .ok (.getfield 43, 3) := by decide +kernel
theorem dX7_addBridge_4 : decode cX7_addBridge 4 = .ok (.bipush 8, 2) := by decide +kernel
theorem dX7_addBridge_6 : decode cX7_addBridge 6 = .ok (.if_icmp .lt 6, 3) := by decide +kernel
theorem dX7_addBridge_9 : decode cX7_addBridge 9 = .ok (.bipush (-4), 2) := by decide +kernel
theorem dX7_addBridge_11 : decode cX7_addBridge 11 = .ok (.ireturn, 1) := by decide +kernel
theorem dX7_addBridge_12 : decode cX7_addBridge 12 = .ok (.aload_n 0, 1) := by decide +kernel
theorem dX7_addBridge_13 : decode cX7_addBridge 13 = .ok (.getfield 9, 3) := by decide +kernel
theorem dX7_addBridge_16 : decode cX7_addBridge 16 = .ok (.aload_n 0, 1) := by decide +kernel
theorem dX7_addBridge_17 : decode cX7_addBridge 17 = .ok (.getfield 43, 3) := by decide +kernel
theorem dX7_addBridge_20 : decode cX7_addBridge 20 = .ok (.iload_n 1, 1) := by decide +kernel
theorem dX7_addBridge_21 : decode cX7_addBridge 21 = .ok (.iastore, 1) := by decide +kernel
theorem dX7_addBridge_22 : decode cX7_addBridge 22 = .ok (.aload_n 0, 1) := by decide +kernel
theorem dX7_addBridge_23 : decode cX7_addBridge 23 = .ok (.getfield 15, 3) := by decide +kernel
theorem dX7_addBridge_26 : decode cX7_addBridge 26 = .ok (.aload_n 0, 1) := by decide +kernel
theorem dX7_addBridge_27 : decode cX7_addBridge 27 = .ok (.getfield 43, 3) := by decide +kernel
theorem dX7_addBridge_30 : decode cX7_addBridge 30 = .ok (.iload_n 2, 1) := by decide +kernel
theorem dX7_addBridge_31 : decode cX7_addBridge 31 = .ok (.iastore, 1) := by decide +kernel
theorem dX7_addBridge_32 : decode cX7_addBridge 32 = .ok (.aload_n 0, 1) := by decide +kernel
theorem dX7_addBridge_33 : decode cX7_addBridge 33 = .ok (.getfield 18, 3) := by decide +kernel
theorem dX7_addBridge_36 : decode cX7_addBridge 36 = .ok (.aload_n 0, 1) := by decide +kernel
theorem dX7_addBridge_37 : decode cX7_addBridge 37 = .ok (.getfield 43, 3) := by decide +kernel
theorem dX7_addBridge_40 : decode cX7_addBridge 40 = .ok (.bipush (-5), 2) := by decide +kernel
theorem dX7_addBridge_42 : decode cX7_addBridge 42 = .ok (.iastore, 1) := by decide +kernel
theorem dX7_addBridge_43 : decode cX7_addBridge 43 = .ok (.aload_n 0, 1) := by decide +kernel
theorem dX7_addBridge_44 : decode cX7_addBridge 44 = .ok (.getfield 43, 3) := by decide +kernel
theorem dX7_addBridge_47 : decode cX7_addBridge 47 = .ok (.iconst 2, 1) := by decide +kernel
theorem dX7_addBridge_48 : decode cX7_addBridge 48 = .ok (.irem, 1) := by decide +kernel
theorem dX7_addBridge_49 : decode cX7_addBridge 49 = .ok (.iconst 1, 1) := by decide +kernel
theorem dX7_addBridge_50 : decode cX7_addBridge 50 = .ok (.if_icmp .ne 33, 3) := by decide +kernel
theorem dX7_addBridge_53 : decode cX7_addBridge 53 = .ok (.aload_n 0, 1) := by decide +kernel
theorem dX7_addBridge_54 : decode cX7_addBridge 54 = .ok (.getfield 18, 3) := by decide +kernel
theorem dX7_addBridge_57 : decode cX7_addBridge 57 = .ok (.aload_n 0, 1) := by decide +kernel
theorem dX7_addBridge_58 : decode cX7_addBridge 58 = .ok (.getfield 43, 3) := by decide +kernel
theorem dX7_addBridge_61 : decode cX7_addBridge 61 = .ok (.aload_n 0, 1) := by decide +kernel
theorem dX7_addBridge_62 : decode cX7_addBridge 62 = .ok (.getfield 43, 3) := by decide +kernel
theorem dX7_addBridge_65 : decode cX7_addBridge 65 = .ok (.iconst 1, 1) := by decide +kernel
theorem dX7_addBridge_66 : decode cX7_addBridge 66 = .ok (.isub, 1) := by decide +kernel
theorem dX7_addBridge_67 : decode cX7_addBridge 67 = .ok (.iastore, 1) := by decide +kernel
theorem dX7_addBridge_68 : decode cX7_addBridge 68 = .ok (.aload_n 0, 1) := by decide +kernel
theorem dX7_addBridge_69 : decode cX7_addBridge 69 = .ok (.getfield 18, 3) := by decide +kernel
theorem dX7_addBridge_72 : decode cX7_addBridge 72 = .ok (.aload_n 0, 1) := by decide +kernel
theorem dX7_addBridge_73 : decode cX7_addBridge 73 = .ok (.getfield 43, 3) := by decide +kernel
theorem dX7_addBridge_76 : decode cX7_addBridge 76 = .ok (.iconst 1, 1) := by decide +kernel
theorem dX7_addBridge_77 : decode cX7_addBridge 77 = .ok (.isub, 1) := by decide +kernel
theorem dX7_addBridge_78 : decode cX7_addBridge 78 = .ok (.aload_n 0, 1) := by decide +kernel
theorem dX7_addBridge_79 : decode cX7_addBridge 79 = .ok (.getfield 43, 3) := by decide +kernel
theorem dX7_addBridge_82 : decode cX7_addBridge 82 = .ok (.iastore, 1) := by decide +kernel
theorem dX7_addBridge_83 : decode cX7_addBridge 83 = .ok (.aload_n 0, 1) := by decide +kernel
theorem dX7_addBridge_84 : decode cX7_addBridge 84 = .ok (.dup, 1) := by decide +kernel
theorem dX7_addBridge_85 : decode cX7_addBridge 85 = .ok (.getfield 43, 3) := by decide +kernel
theorem dX7_addBridge_88 : decode cX7_addBridge 88 = .ok (.dup_x1, 1) := by decide +kernel
theorem dX7_addBridge_89 : decode cX7_addBridge 89 = .ok (.iconst 1, 1) := by decide +kernel
theorem dX7_addBridge_90 : decode cX7_addBridge 90 = .ok (.iadd, 1) := by decide +kernel
theorem dX7_addBridge_91 : decode cX7_addBridge 91 = .ok (.putfield 43, 3) := by decide +kernel
theorem dX7_addBridge_94 : decode cX7_addBridge 94 = .ok (.ireturn, 1) := by decide +kernel
theorem dX7_addPerson_0 : decode cX7_addPerson 0 = .ok (.aload_n 0, 1) := by decide +kernel
theorem dX7_addPerson_1 : decode cX7_addPerson 1 = .ok (.getfield 56, 3) := by decide +kernel
theorem dX7_addPerson_4 : decode cX7_addPerson 4 = .ok (.bipush 6, 2) := by decide +kernel
theorem dX7_addPerson_6 : decode cX7_addPerson 6 = .ok (.if_icmp .lt 6, 3) := by decide +kernel
theorem dX7_addPerson_9 : decode cX7_addPerson 9 = .ok (.bipush (-4), 2) := by decide +kernel
theorem dX7_addPerson_11 : decode cX7_addPerson 11 = .ok (.ireturn, 1) := by decide +kernel
theorem dX7_addPerson_12 : decode cX7_addPerson 12 = .ok (.aload_n 0, 1) := by decide +kernel
theorem dX7_addPerson_13 : decode cX7_addPerson 13 = .ok (.getfield 23, 3) := by decide +kernel
theorem dX7_addPerson_16 : decode cX7_addPerson 16 = .ok (.aload_n 0, 1) := by decide +kernel
theorem dX7_addPerson_17 : decode cX7_addPerson 17 = .ok (.getfield 56, 3) := by decide +kernel
theorem dX7_addPerson_20 : decode cX7_addPerson 20 = .ok (.aaload, 1) := by decide +kernel
theorem dX7_addPerson_21 : decode cX7_addPerson 21 = .ok (.iload_n 1, 1) := by decide +kernel
theorem dX7_addPerson_22 : decode cX7_addPerson 22 = .ok (.iload_n 2, 1) := by decide +kernel
theorem dX7_addPerson_23 : decode cX7_addPerson 23 = .ok (.iload_n 3, 1) := by decide +kernel
theorem dX7_addPerson_24 : decode cX7_addPerson 24 = .ok (.invokevirtual 73, 3) := by decide +kernel
theorem dX7_addPerson_27 : decode cX7_addPerson 27 = .ok (.aload_n 0, 1) := by decide +kernel
theorem dX7_addPerson_28 : decode cX7_addPerson 28 = .ok (.dup, 1) := by decide +kernel
theorem dX7_addPerson_29 : decode cX7_addPerson 29 = .ok (.getfield 56, 3) := by decide +kernel
theorem dX7_addPerson_32 : decode cX7_addPerson 32 = .ok (.dup_x1, 1) := by decide +kernel
theorem dX7_addPerson_33 : decode cX7_addPerson 33 = .ok (.iconst 1, 1) := by decide +kernel
theorem dX7_addPerson_34 : decode cX7_addPerson 34 = .ok (.iadd, 1) := by decide +kernel
theorem dX7_addPerson_35 : decode cX7_addPerson 35 = .ok (.putfield 56, 3) := by decide +kernel
theorem dX7_addPerson_38 : decode cX7_addPerson 38 = .ok (.ireturn, 1) := by decide +kernel
theorem dX7_setLost_0 : decode cX7_setLost 0 = .ok (.iconst 1, 1) := by decide +kernel
theorem dX7_setLost_1 : decode cX7_setLost 1 = .ok (.iload_n 1, 1) := by decide +kernel
theorem dX7_setLost_2 : decode cX7_setLost 2 = .ok (.ishl, 1) := by decide +kernel
theorem dX7_setLost_3 : decode cX7_setLost 3 = .ok (.istore_n 3, 1) := by decide +kernel
theorem dX7_setLost_4 : decode cX7_setLost 4 = .ok (.aload_n 0, 1) := by decide +kernel
theorem dX7_setLost_5 : decode cX7_setLost 5 = .ok (.iload_n 2, 1) := by decide +kernel
theorem dX7_setLost_6 : decode cX7_setLost 6 = .ok (.ifCond .eq 12, 3) := by decide +kernel
theorem dX7_setLost_9 : decode cX7_setLost 9 = .ok (.aload_n 0, 1) := by decide +kernel
theorem dX7_setLost_10 : decode cX7_setLost 10 = .ok (.getfield 53, 3) := by decide +kernel
theorem dX7_setLost_13 : decode cX7_setLost 13 = .ok (.iload_n 3, 1) := by decide +kernel
theorem dX7_setLost_14 : decode cX7_setLost 14 = .ok (.ior, 1) := by decide +kernel
theorem dX7_setLost_15 : decode cX7_setLost 15 = .ok (.goto 11, 3) := by decide +kernel
theorem dX7_setLost_18 : decode cX7_setLost 18 = .ok (.aload_n 0, 1) := by decide +kernel
theorem dX7_setLost_19 : decode cX7_setLost 19 = .ok (.getfield 53, 3) := by decide +kernel
theorem dX7_setLost_22 : decode cX7_setLost 22 = .ok (.iload_n 3, 1) := by decide +kernel
theorem dX7_setLost_23 : decode cX7_setLost 23 = .ok (.iconst (-1), 1) := by decide +kernel
theorem dX7_setLost_24 : decode cX7_setLost 24 = .ok (.ixor, 1) := by decide +kernel
theorem dX7_setLost_25 : decode cX7_setLost 25 = .ok (.iand, 1) := by decide +kernel
theorem dX7_setLost_26 : decode cX7_setLost 26 = .ok (.putfield 53, 3) := by decide +kernel
theorem dX7_setLost_29 : decode cX7_setLost 29 = .ok (.return_, 1) := by decide +kernel
theorem dX7_canExchange_0 : decode cX7_canExchange 0 = .ok (.iload_n 1, 1) := by decide +kernel
theorem dX7_canExchange_1 : decode cX7_canExchange 1 = .ok (.iload_n 2, 1) := by decide +kernel
theorem dX7_canExchange_2 : decode cX7_canExchange 2 = .ok (.if_icmp .eq 39, 3) := by decide +kernel
theorem dX7_canExchange_5 : decode cX7_canExchange 5 = .ok (.aload_n 0, 1) := by decide +kernel
theorem dX7_canExchange_6 : decode cX7_canExchange 6 = .ok (.getfield 18, 3) := by decide +kernel
theorem dX7_canExchange_9 : decode cX7_canExchange 9 = .ok (.iload_n 1, 1) := by decide +kernel
theorem dX7_canExchange_10 : decode cX7_canExchange 10 = .ok (.iaload, 1) := by decide +kernel
theorem dX7_canExchange_11 : decode cX7_canExchange 11 = .ok (.bipush (-5), 2) := by decide +kernel
theorem dX7_canExchange_13 : decode cX7_canExchange 13 = .ok (.if_icmp .eq 28, 3) := by decide +kernel
theorem dX7_canExchange_16 : decode cX7_canExchange 16 = .ok (.aload_n 0, 1) := by decide +kernel
theorem dX7_canExchange_17 : decode cX7_canExchange 17 = .ok (.getfield 18, 3) := by decide +kernel
theorem dX7_canExchange_20 : decode cX7_canExchange 20 = .ok (.iload_n 2, 1) := by decide +kernel
theorem dX7_canExchange_21 : decode cX7_canExchange 21 = .ok (.iaload, 1) := by decide +kernel
theorem dX7_canExchange_22 : decode cX7_canExchange 22 = .ok (.bipush (-5), 2) := by decide +kernel
theorem dX7_canExchange_24 : decode cX7_canExchange 24 = .ok (.if_icmp .eq 17, 3) := by decide +kernel
theorem dX7_canExchange_27 : decode cX7_canExchange 27 = .ok (.aload_n 0, 1) := by decide +kernel
theorem dX7_canExchange_28 : decode cX7_canExchange 28 = .ok (.getfield 18, 3) := by decide +kernel
theorem dX7_canExchange_31 : decode cX7_canExchange 31 = .ok (.iload_n 1, 1) := by decide +kernel
theorem dX7_canExchange_32 : decode cX7_canExchange 32 = .ok (.iaload, 1) := by decide +kernel
theorem dX7_canExchange_33 : decode cX7_canExchange 33 = .ok (.iload_n 2, 1) := by decide +kernel
theorem dX7_canExchange_34 : decode cX7_canExchange 34 = .ok (.if_icmp .eq 7, 3) := by decide +kernel
theorem dX7_canExchange_37 : decode cX7_canExchange 37 = .ok (.iconst 1, 1) := by decide +kernel
theorem dX7_canExchange_38 : decode cX7_canExchange 38 = .ok (.goto 4, 3) := by decide +kernel
theorem dX7_canExchange_41 : decode cX7_canExchange 41 = .ok (.iconst 0, 1) := by decide +kernel
theorem dX7_canExchange_42 : decode cX7_canExchange 42 = .ok (.ireturn, 1) := by decide +kernel
theorem dX7_exchange_0 : decode cX7_exchange 0 = .ok (.aload_n 0, 1) := by decide +kernel
theorem dX7_exchange_1 : decode cX7_exchange 1 = .ok (.getfield 18, 3) := by decide +kernel
theorem dX7_exchange_4 : decode cX7_exchange 4 = .ok (.iload_n 1, 1) := by decide +kernel
theorem dX7_exchange_5 : decode cX7_exchange 5 = .ok (.iaload, 1) := by decide +kernel
theorem dX7_exchange_6 : decode cX7_exchange 6 = .ok (.istore_n 3, 1) := by decide +kernel
theorem dX7_exchange_7 : decode cX7_exchange 7 = .ok (.aload_n 0, 1) := by decide +kernel
theorem dX7_exchange_8 : decode cX7_exchange 8 = .ok (.getfield 18, 3) := by decide +kernel
theorem dX7_exchange_11 : decode cX7_exchange 11 = .ok (.iload_n 2, 1) := by decide +kernel
theorem dX7_exchange_12 : decode cX7_exchange 12 = .ok (.iaload, 1) := by decide +kernel
theorem dX7_exchange_13 : decode cX7_exchange 13 = .ok (.istore 4, 2) := by decide +kernel
theorem dX7_exchange_15 : decode cX7_exchange 15 = .ok (.aload_n 0, 1) := by decide +kernel
theorem dX7_exchange_16 : decode cX7_exchange 16 = .ok (.getfield 18, 3) := by decide +kernel
theorem dX7_exchange_19 : decode cX7_exchange 19 = .ok (.iload_n 1, 1) := by decide +kernel
theorem dX7_exchange_20 : decode cX7_exchange 20 = .ok (.iload 4, 2) := by decide +kernel
theorem dX7_exchange_22 : decode cX7_exchange 22 = .ok (.iastore, 1) := by decide +kernel
theorem dX7_exchange_23 : decode cX7_exchange 23 = .ok (.aload_n 0, 1) := by decide +kernel
theorem dX7_exchange_24 : decode cX7_exchange 24 = .ok (.getfield 18, 3) := by decide +kernel
theorem dX7_exchange_27 : decode cX7_exchange 27 = .ok (.iload 4, 2) := by decide +kernel
theorem dX7_exchange_29 : decode cX7_exchange 29 = .ok (.iload_n 1, 1) := by decide +kernel
theorem dX7_exchange_30 : decode cX7_exchange 30 = .ok (.iastore, 1) := by decide +kernel
theorem dX7_exchange_31 : decode cX7_exchange 31 = .ok (.aload_n 0, 1) := by decide +kernel
theorem dX7_exchange_32 : decode cX7_exchange 32 = .ok (.getfield 18, 3) := by decide +kernel
theorem dX7_exchange_35 : decode cX7_exchange 35 = .ok (.iload_n 2, 1) := by decide +kernel
theorem dX7_exchange_36 : decode cX7_exchange 36 = .ok (.iload_n 3, 1) := by decide +kernel
theorem dX7_exchange_37 : decode cX7_exchange 37 = .ok (.iastore, 1) := by decide +kernel
theorem dX7_exchange_38 : decode cX7_exchange 38 = .ok (.aload_n 0, 1) := by decide +kernel
theorem dX7_exchange_39 : decode cX7_exchange 39 = .ok (.getfield 18, 3) := by decide +kernel
theorem dX7_exchange_42 : decode cX7_exchange 42 = .ok (.iload_n 3, 1) := by decide +kernel
theorem dX7_exchange_43 : decode cX7_exchange 43 = .ok (.iload_n 2, 1) := by decide +kernel
theorem dX7_exchange_44 : decode cX7_exchange 44 = .ok (.iastore, 1) := by decide +kernel
theorem dX7_exchange_45 : decode cX7_exchange 45 = .ok (.return_, 1) := by decide +kernel
theorem dX7_otherEnd_0 : decode cX7_otherEnd 0 = .ok (.aload_n 0, 1) := by decide +kernel
theorem dX7_otherEnd_1 : decode cX7_otherEnd 1 = .ok (.getfield 9, 3) := by decide +kernel
theorem dX7_otherEnd_4 : decode cX7_otherEnd 4 = .ok (.iload_n 1, 1) := by decide +kernel
theorem dX7_otherEnd_5 : decode cX7_otherEnd 5 = .ok (.iaload, 1) := by decide +kernel
theorem dX7_otherEnd_6 : decode cX7_otherEnd 6 = .ok (.iload_n 2, 1) := by decide +kernel
theorem dX7_otherEnd_7 : decode cX7_otherEnd 7 = .ok (.if_icmp .ne 10, 3) := by decide +kernel
theorem dX7_otherEnd_10 : decode cX7_otherEnd 10 = .ok (.aload_n 0, 1) := by decide +kernel
theorem dX7_otherEnd_11 : decode cX7_otherEnd 11 = .ok (.getfield 15, 3) := by decide +kernel
theorem dX7_otherEnd_14 : decode cX7_otherEnd 14 = .ok (.iload_n 1, 1) := by decide +kernel
theorem dX7_otherEnd_15 : decode cX7_otherEnd 15 = .ok (.iaload, 1) := by decide +kernel
theorem dX7_otherEnd_16 : decode cX7_otherEnd 16 = .ok (.ireturn, 1) := by decide +kernel
theorem dX7_otherEnd_17 : decode cX7_otherEnd 17 = .ok (.aload_n 0, 1) := by decide +kernel
theorem dX7_otherEnd_18 : decode cX7_otherEnd 18 = .ok (.getfield 15, 3) := by decide +kernel
theorem dX7_otherEnd_21 : decode cX7_otherEnd 21 = .ok (.iload_n 1, 1) := by decide +kernel
theorem dX7_otherEnd_22 : decode cX7_otherEnd 22 = .ok (.iaload, 1) := by decide +kernel
theorem dX7_otherEnd_23 : decode cX7_otherEnd 23 = .ok (.iload_n 2, 1) := by decide +kernel
theorem dX7_otherEnd_24 : decode cX7_otherEnd 24 = .ok (.if_icmp .ne 12, 3) := by decide +kernel
theorem dX7_otherEnd_27 : decode cX7_otherEnd 27 = .ok (.aload_n 0, 1) := by decide +kernel
theorem dX7_otherEnd_28 : decode cX7_otherEnd 28 = .ok (.getfield 9, 3) := by decide +kernel
theorem dX7_otherEnd_31 : decode cX7_otherEnd 31 = .ok (.iload_n 1, 1) := by decide +kernel
theorem dX7_otherEnd_32 : decode cX7_otherEnd 32 = .ok (.iaload, 1) := by decide +kernel
theorem dX7_otherEnd_33 : decode cX7_otherEnd 33 = .ok (.goto 4, 3) := by decide +kernel
theorem dX7_otherEnd_36 : decode cX7_otherEnd 36 = .ok (.iconst (-1), 1) := by decide +kernel
theorem dX7_otherEnd_37 : decode cX7_otherEnd 37 = .ok (.ireturn, 1) := by decide +kernel
theorem dX7_halfBehind_0 : decode cX7_halfBehind 0 = .ok (.aload_n 0, 1) := by decide +kernel
theorem dX7_halfBehind_1 : decode cX7_halfBehind 1 = .ok (.getfield 18, 3) := by decide +kernel
theorem dX7_halfBehind_4 : decode cX7_halfBehind 4 = .ok (.iload_n 2, 1) := by decide +kernel
theorem dX7_halfBehind_5 : decode cX7_halfBehind 5 = .ok (.iaload, 1) := by decide +kernel
theorem dX7_halfBehind_6 : decode cX7_halfBehind 6 = .ok (.istore_n 3, 1) := by decide +kernel
theorem dX7_halfBehind_7 : decode cX7_halfBehind 7 = .ok (.iload_n 3, 1) := by decide +kernel
theorem dX7_halfBehind_8 : decode cX7_halfBehind 8 = .ok (.bipush (-5), 2) := by decide +kernel
theorem dX7_halfBehind_10 : decode cX7_halfBehind 10 = .ok (.if_icmp .eq 17, 3) := by decide +kernel
theorem dX7_halfBehind_13 : decode cX7_halfBehind 13 = .ok (.iload_n 1, 1) := by decide +kernel
theorem dX7_halfBehind_14 : decode cX7_halfBehind 14 = .ok (.iload_n 3, 1) := by decide +kernel
theorem dX7_halfBehind_15 : decode cX7_halfBehind 15 = .ok (.ishr, 1) := by decide +kernel
theorem dX7_halfBehind_16 : decode cX7_halfBehind 16 = .ok (.iconst 1, 1) := by decide +kernel
theorem dX7_halfBehind_17 : decode cX7_halfBehind 17 = .ok (.iand, 1) := by decide +kernel
theorem dX7_halfBehind_18 : decode cX7_halfBehind 18 = .ok (.ifCond .eq 9, 3) := by decide +kernel
theorem dX7_halfBehind_21 : decode cX7_halfBehind 21 = .ok (.iload_n 1, 1) := by decide +kernel
theorem dX7_halfBehind_22 : decode cX7_halfBehind 22 = .ok (.iconst 1, 1) := by decide +kernel
theorem dX7_halfBehind_23 : decode cX7_halfBehind 23 = .ok (.iload_n 3, 1) := by decide +kernel
theorem dX7_halfBehind_24 : decode cX7_halfBehind 24 = .ok (.ishl, 1) := by decide +kernel
theorem dX7_halfBehind_25 : decode cX7_halfBehind 25 = .ok (.ixor, 1) := by decide +kernel
theorem dX7_halfBehind_26 : decode cX7_halfBehind 26 = .ok (.ireturn, 1) := by decide +kernel
theorem dX7_halfBehind_27 : decode cX7_halfBehind 27 = .ok (.iload_n 1, 1) := by decide +kernel
theorem dX7_halfBehind_28 : decode cX7_halfBehind 28 = .ok (.iconst 1, 1) := by decide +kernel
theorem dX7_halfBehind_29 : decode cX7_halfBehind 29 = .ok (.iload_n 2, 1) := by decide +kernel
theorem dX7_halfBehind_30 : decode cX7_halfBehind 30 = .ok (.ishl, 1) := by decide +kernel
theorem dX7_halfBehind_31 : decode cX7_halfBehind 31 = .ok (.ixor, 1) := by decide +kernel
theorem dX7_halfBehind_32 : decode cX7_halfBehind 32 = .ok (.ireturn, 1) := by decide +kernel
theorem dX7_goOver_0 : decode cX7_goOver 0 = .ok (.aload_n 0, 1) := by decide +kernel
theorem dX7_goOver_1 : decode cX7_goOver 1 = .ok (.getfield 23, 3) := by decide +kernel
theorem dX7_goOver_4 : decode cX7_goOver 4 = .ok (.iload_n 1, 1) := by decide +kernel
theorem dX7_goOver_5 : decode cX7_goOver 5 = .ok (.aaload, 1) := by decide +kernel
theorem dX7_goOver_6 : decode cX7_goOver 6 = .ok (.astore_n 3, 1) := by decide +kernel
theorem dX7_goOver_7 : decode cX7_goOver 7 = .ok (.aload_n 3, 1) := by decide +kernel
theorem dX7_goOver_8 : decode cX7_goOver 8 = .ok (.aload_n 0, 1) := by decide +kernel
theorem dX7_goOver_9 : decode cX7_goOver 9 = .ok (.iload_n 2, 1) := by decide +kernel
theorem dX7_goOver_10 : decode cX7_goOver 10 = .ok (.aload_n 3, 1) := by decide +kernel
theorem dX7_goOver_11 : decode cX7_goOver 11 = .ok (.getfield 77, 3) := by decide +kernel
theorem dX7_goOver_14 : decode cX7_goOver 14 = .ok (.invokevirtual 80, 3) := by decide +kernel
theorem dX7_goOver_17 : decode cX7_goOver 17 = .ok (.putfield 77, 3) := by decide +kernel
theorem dX7_goOver_20 : decode cX7_goOver 20 = .ok (.aload_n 3, 1) := by decide +kernel
theorem dX7_goOver_21 : decode cX7_goOver 21 = .ok (.aload_n 0, 1) := by decide +kernel
theorem dX7_goOver_22 : decode cX7_goOver 22 = .ok (.aload_n 3, 1) := by decide +kernel
theorem dX7_goOver_23 : decode cX7_goOver 23 = .ok (.getfield 84, 3) := by decide +kernel
theorem dX7_goOver_26 : decode cX7_goOver 26 = .ok (.iload_n 2, 1) := by decide +kernel
theorem dX7_goOver_27 : decode cX7_goOver 27 = .ok (.invokevirtual 87, 3) := by decide +kernel
theorem dX7_goOver_30 : decode cX7_goOver 30 = .ok (.putfield 84, 3) := by decide +kernel
theorem dX7_goOver_33 : decode cX7_goOver 33 = .ok (.aload_n 3, 1) := by decide +kernel
theorem dX7_goOver_34 : decode cX7_goOver 34 = .ok (.getfield 84, 3) := by decide +kernel
theorem dX7_goOver_37 : decode cX7_goOver 37 = .ok (.ifCond .ne 11, 3) := by decide +kernel
theorem dX7_goOver_40 : decode cX7_goOver 40 = .ok (.aload_n 3, 1) := by decide +kernel
theorem dX7_goOver_41 : decode cX7_goOver 41 = .ok (.aload_n 3, 1) := by decide +kernel
theorem dX7_goOver_42 : decode cX7_goOver 42 = .ok (.getfield 77, 3) := by decide +kernel
theorem dX7_goOver_45 : decode cX7_goOver 45 = .ok (.putfield 90, 3) := by decide +kernel
theorem dX7_goOver_48 : decode cX7_goOver 48 = .ok (.return_, 1) := by decide +kernel
theorem dX7_leave_0 : decode cX7_leave 0 = .ok (.aload_n 0, 1) := by decide +kernel
theorem dX7_leave_1 : decode cX7_leave 1 = .ok (.getfield 23, 3) := by decide +kernel
theorem dX7_leave_4 : decode cX7_leave 4 = .ok (.iload_n 1, 1) := by decide +kernel
theorem dX7_leave_5 : decode cX7_leave 5 = .ok (.aaload, 1) := by decide +kernel
theorem dX7_leave_6 : decode cX7_leave 6 = .ok (.astore 4, 2) := by decide +kernel
theorem dX7_leave_8 : decode cX7_leave 8 = .ok (.aload_n 0, 1) := by decide +kernel
theorem dX7_leave_9 : decode cX7_leave 9 = .ok (.getfield 66, 3) := by decide +kernel
theorem dX7_leave_12 : decode cX7_leave 12 = .ok (.ifnonnull 7, 3) := by decide +kernel
theorem dX7_leave_15 : decode cX7_leave 15 = .ok (.iconst 3, 1) := by decide +kernel
theorem dX7_leave_16 : decode cX7_leave 16 = .ok (.goto 30, 3) := by decide +kernel
theorem dX7_leave_19 : decode cX7_leave 19 = .ok (.aload_n 0, 1) := by decide +kernel
theorem dX7_leave_20 : decode cX7_leave 20 = .ok (.getfield 66, 3) := by decide +kernel
theorem dX7_leave_23 : decode cX7_leave 23 = .ok (.iload_n 1, 1) := by decide +kernel
theorem dX7_leave_24 : decode cX7_leave 24 = .ok (.aload 4, 2) := by decide +kernel
theorem dX7_leave_26 : decode cX7_leave 26 = .ok (.getfield 93, 3) := by decide +kernel
theorem dX7_leave_29 : decode cX7_leave 29 = .ok (.aload 4, 2) := by decide +kernel
theorem dX7_leave_31 : decode cX7_leave 31 = .ok (.getfield 96, 3) := by decide +kernel
theorem dX7_leave_34 : decode cX7_leave 34 = .ok (.iload_n 2, 1) := by decide +kernel
theorem dX7_leave_35 : decode cX7_leave 35 = .ok (.iload_n 3, 1) := by decide +kernel
theorem dX7_leave_36 : decode cX7_leave 36 = .ok (.aload_n 0, 1) := by decide +kernel
theorem dX7_leave_37 : decode cX7_leave 37 = .ok (.getfield 63, 3) := by decide +kernel
theorem dX7_leave_40 : decode cX7_leave 40 = .ok (.bipush 10, 2) := by decide +kernel
theorem dX7_leave_42 : decode cX7_leave 42 = .ok (.irem, 1) := by decide +kernel
theorem dX7_leave_43 : decode cX7_leave 43 = .ok (.invokevirtual 99, 3) := by decide +kernel
theorem dX7_leave_46 : decode cX7_leave 46 = .ok (.istore 5, 2) := by decide +kernel
theorem dX7_leave_48 : decode cX7_leave 48 = .ok (.aload 4, 2) := by decide +kernel
theorem dX7_leave_50 : decode cX7_leave 50 = .ok (.getfield 93, 3) := by decide +kernel
theorem dX7_leave_53 : decode cX7_leave 53 = .ok (.tableswitch 116 1 6 #[39, 54, 59, 66, 90, 97], 39) := by decide +kernel
theorem dX7_leave_92 : decode cX7_leave 92 = .ok (.iload 5, 2) := by decide +kernel
theorem dX7_leave_94 : decode cX7_leave 94 = .ok (.aload 4, 2) := by decide +kernel
theorem dX7_leave_96 : decode cX7_leave 96 = .ok (.getfield 96, 3) := by decide +kernel
theorem dX7_leave_99 : decode cX7_leave 99 = .ok (.iadd, 1) := by decide +kernel
theorem dX7_leave_100 : decode cX7_leave 100 = .ok (.iload_n 2, 1) := by decide +kernel
theorem dX7_leave_101 : decode cX7_leave 101 = .ok (.iconst 2, 1) := by decide +kernel
theorem dX7_leave_102 : decode cX7_leave 102 = .ok (.irem, 1) := by decide +kernel
theorem dX7_leave_103 : decode cX7_leave 103 = .ok (.iconst 5, 1) := by decide +kernel
theorem dX7_leave_104 : decode cX7_leave 104 = .ok (.imul, 1) := by decide +kernel
theorem dX7_leave_105 : decode cX7_leave 105 = .ok (.isub, 1) := by decide +kernel
theorem dX7_leave_106 : decode cX7_leave 106 = .ok (.ireturn, 1) := by decide +kernel
theorem dX7_leave_107 : decode cX7_leave 107 = .ok (.iload 5, 2) := by decide +kernel
theorem dX7_leave_109 : decode cX7_leave 109 = .ok (.iconst 2, 1) := by decide +kernel
theorem dX7_leave_110 : decode cX7_leave 110 = .ok (.idiv, 1) := by decide +kernel
theorem dX7_leave_111 : decode cX7_leave 111 = .ok (.ireturn, 1) := by decide +kernel
theorem dX7_leave_112 : decode cX7_leave 112 = .ok (.iload 5, 2) := by decide +kernel
theorem dX7_leave_114 : decode cX7_leave 114 = .ok (.iconst 2, 1) := by decide +kernel
theorem dX7_leave_115 : decode cX7_leave 115 = .ok (.iload_n 3, 1) := by decide +kernel
theorem dX7_leave_116 : decode cX7_leave 116 = .ok (.imul, 1) := by decide +kernel
theorem dX7_leave_117 : decode cX7_leave 117 = .ok (.isub, 1) := by decide +kernel
theorem dX7_leave_118 : decode cX7_leave 118 = .ok (.ireturn, 1) := by decide +kernel
theorem dX7_leave_119 : decode cX7_leave 119 = .ok (.iload_n 3, 1) := by decide +kernel
theorem dX7_leave_120 : decode cX7_leave 120 = .ok (.iconst 2, 1) := by decide +kernel
theorem dX7_leave_121 : decode cX7_leave 121 = .ok (.if_icmp .le 7, 3) := by decide +kernel
theorem dX7_leave_124 : decode cX7_leave 124 = .ok (.iconst 0, 1) := by decide +kernel
theorem dX7_leave_125 : decode cX7_leave 125 = .ok (.goto 17, 3) := by decide +kernel
theorem dX7_leave_128 : decode cX7_leave 128 = .ok (.iload 5, 2) := by decide +kernel
theorem dX7_leave_130 : decode cX7_leave 130 = .ok (.aload 4, 2) := by decide +kernel
theorem dX7_leave_132 : decode cX7_leave 132 = .ok (.getfield 96, 3) := by decide +kernel
theorem dX7_leave_135 : decode cX7_leave 135 = .ok (.iadd, 1) := by decide +kernel
theorem dX7_leave_136 : decode cX7_leave 136 = .ok (.iload_n 2, 1) := by decide +kernel
theorem dX7_leave_137 : decode cX7_leave 137 = .ok (.iconst 2, 1) := by decide +kernel
theorem dX7_leave_138 : decode cX7_leave 138 = .ok (.irem, 1) := by decide +kernel
theorem dX7_leave_139 : decode cX7_leave 139 = .ok (.iconst 5, 1) := by decide +kernel
theorem dX7_leave_140 : decode cX7_leave 140 = .ok (.imul, 1) := by decide +kernel
theorem dX7_leave_141 : decode cX7_leave 141 = .ok (.isub, 1) := by decide +kernel
theorem dX7_leave_142 : decode cX7_leave 142 = .ok (.ireturn, 1) := by decide +kernel
theorem dX7_leave_143 : decode cX7_leave 143 = .ok (.iload 5, 2) := by decide +kernel
theorem dX7_leave_145 : decode cX7_leave 145 = .ok (.iconst 2, 1) := by decide +kernel
theorem dX7_leave_146 : decode cX7_leave 146 = .ok (.idiv, 1) := by decide +kernel
theorem dX7_leave_147 : decode cX7_leave 147 = .ok (.iconst 2, 1) := by decide +kernel
theorem dX7_leave_148 : decode cX7_leave 148 = .ok (.iadd, 1) := by decide +kernel
theorem dX7_leave_149 : decode cX7_leave 149 = .ok (.ireturn, 1) := by decide +kernel
theorem dX7_leave_150 : decode cX7_leave 150 = .ok (.iload 5, 2) := by decide +kernel
theorem dX7_leave_152 : decode cX7_leave 152 = .ok (.iconst 2, 1) := by decide +kernel
theorem dX7_leave_153 : decode cX7_leave 153 = .ok (.iload_n 3, 1) := by decide +kernel
theorem dX7_leave_154 : decode cX7_leave 154 = .ok (.imul, 1) := by decide +kernel
theorem dX7_leave_155 : decode cX7_leave 155 = .ok (.isub, 1) := by decide +kernel
theorem dX7_leave_156 : decode cX7_leave 156 = .ok (.aload 4, 2) := by decide +kernel
theorem dX7_leave_158 : decode cX7_leave 158 = .ok (.getfield 105, 3) := by decide +kernel
theorem dX7_leave_161 : decode cX7_leave 161 = .ok (.iload_n 2, 1) := by decide +kernel
theorem dX7_leave_162 : decode cX7_leave 162 = .ok (.iconst 4, 1) := by decide +kernel
theorem dX7_leave_163 : decode cX7_leave 163 = .ok (.irem, 1) := by decide +kernel
theorem dX7_leave_164 : decode cX7_leave 164 = .ok (.iaload, 1) := by decide +kernel
theorem dX7_leave_165 : decode cX7_leave 165 = .ok (.iadd, 1) := by decide +kernel
theorem dX7_leave_166 : decode cX7_leave 166 = .ok (.iconst 4, 1) := by decide +kernel
theorem dX7_leave_167 : decode cX7_leave 167 = .ok (.isub, 1) := by decide +kernel
theorem dX7_leave_168 : decode cX7_leave 168 = .ok (.ireturn, 1) := by decide +kernel
theorem dX7_leave_169 : decode cX7_leave 169 = .ok (.iload 5, 2) := by decide +kernel
theorem dX7_leave_171 : decode cX7_leave 171 = .ok (.ireturn, 1) := by decide +kernel
theorem dX7_mayCross_0 : decode cX7_mayCross 0 = .ok (.aload_n 0, 1) := by decide +kernel
theorem dX7_mayCross_1 : decode cX7_mayCross 1 = .ok (.getfield 53, 3) := by decide +kernel
theorem dX7_mayCross_4 : decode cX7_mayCross 4 = .ok (.iload_n 2, 1) := by decide +kernel
theorem dX7_mayCross_5 : decode cX7_mayCross 5 = .ok (.ishr, 1) := by decide +kernel
theorem dX7_mayCross_6 : decode cX7_mayCross 6 = .ok (.iconst 1, 1) := by decide +kernel
theorem dX7_mayCross_7 : decode cX7_mayCross 7 = .ok (.iand, 1) := by decide +kernel
theorem dX7_mayCross_8 : decode cX7_mayCross 8 = .ok (.ifCond .eq 16, 3) := by decide +kernel
theorem dX7_mayCross_11 : decode cX7_mayCross 11 = .ok (.aload_n 0, 1) := by decide +kernel
theorem dX7_mayCross_12 : decode cX7_mayCross 12 = .ok (.getfield 23, 3) := by decide +kernel
theorem dX7_mayCross_15 : decode cX7_mayCross 15 = .ok (.iload_n 1, 1) := by decide +kernel
theorem dX7_mayCross_16 : decode cX7_mayCross 16 = .ok (.aaload, 1) := by decide +kernel
theorem dX7_mayCross_17 : decode cX7_mayCross 17 = .ok (.getfield 93, 3) := by decide +kernel
theorem dX7_mayCross_20 : decode cX7_mayCross 20 = .ok (.iconst 5, 1) := by decide +kernel
theorem dX7_mayCross_21 : decode cX7_mayCross 21 = .ok (.if_icmp .ne 7, 3) := by decide +kernel
theorem dX7_mayCross_24 : decode cX7_mayCross 24 = .ok (.iconst 1, 1) := by decide +kernel
theorem dX7_mayCross_25 : decode cX7_mayCross 25 = .ok (.goto 4, 3) := by decide +kernel
theorem dX7_mayCross_28 : decode cX7_mayCross 28 = .ok (.iconst 0, 1) := by decide +kernel
theorem dX7_mayCross_29 : decode cX7_mayCross 29 = .ok (.istore 4, 2) := by decide +kernel
theorem dX7_mayCross_31 : decode cX7_mayCross 31 = .ok (.iload 4, 2) := by decide +kernel
theorem dX7_mayCross_33 : decode cX7_mayCross 33 = .ok (.ifCond .eq 18, 3) := by decide +kernel
theorem dX7_mayCross_36 : decode cX7_mayCross 36 = .ok (.aload_n 0, 1) := by decide +kernel
theorem dX7_mayCross_37 : decode cX7_mayCross 37 = .ok (.iload_n 1, 1) := by decide +kernel
theorem dX7_mayCross_38 : decode cX7_mayCross 38 = .ok (.iload_n 2, 1) := by decide +kernel
theorem dX7_mayCross_39 : decode cX7_mayCross 39 = .ok (.iload_n 3, 1) := by decide +kernel
theorem dX7_mayCross_40 : decode cX7_mayCross 40 = .ok (.invokevirtual 108, 3) := by decide +kernel
theorem dX7_mayCross_43 : decode cX7_mayCross 43 = .ok (.iconst 1, 1) := by decide +kernel
theorem dX7_mayCross_44 : decode cX7_mayCross 44 = .ok (.if_icmp .lt 7, 3) := by decide +kernel
theorem dX7_mayCross_47 : decode cX7_mayCross 47 = .ok (.iconst 1, 1) := by decide +kernel
theorem dX7_mayCross_48 : decode cX7_mayCross 48 = .ok (.goto 4, 3) := by decide +kernel
theorem dX7_mayCross_51 : decode cX7_mayCross 51 = .ok (.iconst 0, 1) := by decide +kernel
theorem dX7_mayCross_52 : decode cX7_mayCross 52 = .ok (.ireturn, 1) := by decide +kernel
theorem dX7_dark_0 : decode cX7_dark 0 = .ok (.aload_n 0, 1) := by decide +kernel
theorem dX7_dark_1 : decode cX7_dark 1 = .ok (.getfield 66, 3) := by decide +kernel
theorem dX7_dark_4 : decode cX7_dark 4 = .ok (.ifnonnull 7, 3) := by decide +kernel
theorem dX7_dark_7 : decode cX7_dark 7 = .ok (.iconst 0, 1) := by decide +kernel
theorem dX7_dark_8 : decode cX7_dark 8 = .ok (.goto 10, 3) := by decide +kernel
theorem dX7_dark_11 : decode cX7_dark 11 = .ok (.aload_n 0, 1) := by decide +kernel
theorem dX7_dark_12 : decode cX7_dark 12 = .ok (.getfield 66, 3) := by decide +kernel
theorem dX7_dark_15 : decode cX7_dark 15 = .ok (.getfield 112, 3) := by decide +kernel
theorem dX7_dark_18 : decode cX7_dark 18 = .ok (.ireturn, 1) := by decide +kernel
theorem dX7_arrived_0 : decode cX7_arrived 0 = .ok (.iconst 0, 1) := by decide +kernel
theorem dX7_arrived_1 : decode cX7_arrived 1 = .ok (.istore_n 1, 1) := by decide +kernel
theorem dX7_arrived_2 : decode cX7_arrived 2 = .ok (.iconst 0, 1) := by decide +kernel
theorem dX7_arrived_3 : decode cX7_arrived 3 = .ok (.istore_n 2, 1) := by decide +kernel
theorem dX7_arrived_4 : decode cX7_arrived 4 = .ok (.iload_n 2, 1) := by decide +kernel
theorem dX7_arrived_5 : decode cX7_arrived 5 = .ok (.aload_n 0, 1) := by decide +kernel
theorem dX7_arrived_6 : decode cX7_arrived 6 = .ok (.getfield 56, 3) := by decide +kernel
theorem dX7_arrived_9 : decode cX7_arrived 9 = .ok (.if_icmp .ge 27, 3) := by decide +kernel
theorem dX7_arrived_12 : decode cX7_arrived 12 = .ok (.aload_n 0, 1) := by decide +kernel
theorem dX7_arrived_13 : decode cX7_arrived 13 = .ok (.getfield 23, 3) := by decide +kernel
theorem dX7_arrived_16 : decode cX7_arrived 16 = .ok (.iload_n 2, 1) := by decide +kernel
theorem dX7_arrived_17 : decode cX7_arrived 17 = .ok (.aaload, 1) := by decide +kernel
theorem dX7_arrived_18 : decode cX7_arrived 18 = .ok (.invokevirtual 115, 3) := by decide +kernel
theorem dX7_arrived_21 : decode cX7_arrived 21 = .ok (.ifCond .eq 9, 3) := by decide +kernel
theorem dX7_arrived_24 : decode cX7_arrived 24 = .ok (.iload_n 1, 1) := by decide +kernel
theorem dX7_arrived_25 : decode cX7_arrived 25 = .ok (.iconst 1, 1) := by decide +kernel
theorem dX7_arrived_26 : decode cX7_arrived 26 = .ok (.iload_n 2, 1) := by decide +kernel
theorem dX7_arrived_27 : decode cX7_arrived 27 = .ok (.ishl, 1) := by decide +kernel
theorem dX7_arrived_28 : decode cX7_arrived 28 = .ok (.ior, 1) := by decide +kernel
theorem dX7_arrived_29 : decode cX7_arrived 29 = .ok (.istore_n 1, 1) := by decide +kernel
theorem dX7_arrived_30 : decode cX7_arrived 30 = .ok (.iinc 2 1, 3) := by decide +kernel
theorem dX7_arrived_33 : decode cX7_arrived 33 = .ok (.goto (-29), 3) := by decide +kernel
theorem dX7_arrived_36 : decode cX7_arrived 36 = .ok (.iload_n 1, 1) := by decide +kernel
theorem dX7_arrived_37 : decode cX7_arrived 37 = .ok (.ireturn, 1) := by decide +kernel
theorem dX7_halves_0 : decode cX7_halves 0 = .ok (.iconst 0, 1) := by decide +kernel
theorem dX7_halves_1 : decode cX7_halves 1 = .ok (.istore_n 1, 1) := by decide +kernel
theorem dX7_halves_2 : decode cX7_halves 2 = .ok (.iconst 0, 1) := by decide +kernel
theorem dX7_halves_3 : decode cX7_halves 3 = .ok (.istore_n 2, 1) := by decide +kernel
theorem dX7_halves_4 : decode cX7_halves 4 = .ok (.iload_n 2, 1) := by decide +kernel
theorem dX7_halves_5 : decode cX7_halves 5 = .ok (.aload_n 0, 1) := by decide +kernel
theorem dX7_halves_6 : decode cX7_halves 6 = .ok (.getfield 56, 3) := by decide +kernel
theorem dX7_halves_9 : decode cX7_halves 9 = .ok (.if_icmp .ge 24, 3) := by decide +kernel
theorem dX7_halves_12 : decode cX7_halves 12 = .ok (.iload_n 1, 1) := by decide +kernel
theorem dX7_halves_13 : decode cX7_halves 13 = .ok (.aload_n 0, 1) := by decide +kernel
theorem dX7_halves_14 : decode cX7_halves 14 = .ok (.getfield 23, 3) := by decide +kernel
theorem dX7_halves_17 : decode cX7_halves 17 = .ok (.iload_n 2, 1) := by decide +kernel
theorem dX7_halves_18 : decode cX7_halves 18 = .ok (.aaload, 1) := by decide +kernel
theorem dX7_halves_19 : decode cX7_halves 19 = .ok (.getfield 84, 3) := by decide +kernel
theorem dX7_halves_22 : decode cX7_halves 22 = .ok (.invokestatic 119, 3) := by decide +kernel
theorem dX7_halves_25 : decode cX7_halves 25 = .ok (.iadd, 1) := by decide +kernel
theorem dX7_halves_26 : decode cX7_halves 26 = .ok (.istore_n 1, 1) := by decide +kernel
theorem dX7_halves_27 : decode cX7_halves 27 = .ok (.iinc 2 1, 3) := by decide +kernel
theorem dX7_halves_30 : decode cX7_halves 30 = .ok (.goto (-26), 3) := by decide +kernel
theorem dX7_halves_33 : decode cX7_halves 33 = .ok (.iload_n 1, 1) := by decide +kernel
theorem dX7_halves_34 : decode cX7_halves 34 = .ok (.ireturn, 1) := by decide +kernel
theorem dX8_init_0 : decode cX8_init 0 = .ok (.aload_n 0, 1) := by decide +kernel
theorem dX8_init_1 : decode cX8_init 1 = .ok (.invokespecial 5, 3) := by decide +kernel
theorem dX8_init_4 : decode cX8_init 4 = .ok (.aload_n 0, 1) := by decide +kernel
theorem dX8_init_5 : decode cX8_init 5 = .ok (.new 11, 3) := by decide +kernel
theorem dX8_init_8 : decode cX8_init 8 = .ok (.dup, 1) := by decide +kernel
theorem dX8_init_9 : decode cX8_init 9 = .ok (.invokespecial 13, 3) := by decide +kernel
theorem dX8_init_12 : decode cX8_init 12 = .ok (.putfield 14, 3) := by decide +kernel
theorem dX8_init_15 : decode cX8_init 15 = .ok (.aload_n 0, 1) := by decide +kernel
theorem dX8_init_16 : decode cX8_init 16 = .ok (.new 11, 3) := by decide +kernel
theorem dX8_init_19 : decode cX8_init 19 = .ok (.dup, 1) := by decide +kernel
theorem dX8_init_20 : decode cX8_init 20 = .ok (.invokespecial 13, 3) := by decide +kernel
theorem dX8_init_23 : decode cX8_init 23 = .ok (.putfield 18, 3) := by decide +kernel
theorem dX8_init_26 : decode cX8_init 26 = .ok (.aload_n 0, 1) := by decide +kernel
theorem dX8_init_27 : decode cX8_init 27 = .ok (.new 11, 3) := by decide +kernel
theorem dX8_init_30 : decode cX8_init 30 = .ok (.dup, 1) := by decide +kernel
theorem dX8_init_31 : decode cX8_init 31 = .ok (.invokespecial 13, 3) := by decide +kernel
theorem dX8_init_34 : decode cX8_init 34 = .ok (.putfield 21, 3) := by decide +kernel
theorem dX8_init_37 : decode cX8_init 37 = .ok (.aload_n 0, 1) := by decide +kernel
theorem dX8_init_38 : decode cX8_init 38 = .ok (.new 24, 3) := by decide +kernel
theorem dX8_init_41 : decode cX8_init 41 = .ok (.dup, 1) := by decide +kernel
theorem dX8_init_42 : decode cX8_init 42 = .ok (.invokespecial 26, 3) := by decide +kernel
theorem dX8_init_45 : decode cX8_init 45 = .ok (.putfield 27, 3) := by decide +kernel
theorem dX8_init_48 : decode cX8_init 48 = .ok (.aload_n 0, 1) := by decide +kernel
theorem dX8_init_49 : decode cX8_init 49 = .ok (.new 31, 3) := by decide +kernel
theorem dX8_init_52 : decode cX8_init 52 = .ok (.dup, 1) := by decide +kernel
theorem dX8_init_53 : decode cX8_init 53 = .ok (.invokespecial 33, 3) := by decide +kernel
theorem dX8_init_56 : decode cX8_init 56 = .ok (.putfield 34, 3) := by decide +kernel
theorem dX8_init_59 : decode cX8_init 59 = .ok (.aload_n 0, 1) := by decide +kernel
theorem dX8_init_60 : decode cX8_init 60 = .ok (.bipush 6, 2) := by decide +kernel
theorem dX8_init_62 : decode cX8_init 62 = .ok (.anewarray 38, 3) := by decide +kernel
theorem dX8_init_65 : decode cX8_init 65 = .ok (.putfield 40, 3) := by decide +kernel
theorem dX8_init_68 : decode cX8_init 68 = .ok (.aload_n 0, 1) := by decide +kernel
theorem dX8_init_69 : decode cX8_init 69 = .ok (.bipush 6, 2) := by decide +kernel
theorem dX8_init_71 : decode cX8_init 71 = .ok (.anewarray 44, 3) := by decide +kernel
theorem dX8_init_74 : decode cX8_init 74 = .ok (.putfield 46, 3) := by decide +kernel
theorem dX8_init_77 : decode cX8_init 77 = .ok (.aload_n 0, 1) := by decide +kernel
theorem dX8_init_78 : decode cX8_init 78 = .ok (.new 50, 3) := by decide +kernel
theorem dX8_init_81 : decode cX8_init 81 = .ok (.dup, 1) := by decide +kernel
theorem dX8_init_82 : decode cX8_init 82 = .ok (.invokespecial 52, 3) := by decide +kernel
theorem dX8_init_85 : decode cX8_init 85 = .ok (.putfield 53, 3) := by decide +kernel
theorem dX8_init_88 : decode cX8_init 88 = .ok (.iconst 0, 1) := by decide +kernel
theorem dX8_init_89 : decode cX8_init 89 = .ok (.istore_n 1, 1) := by decide +kernel
theorem dX8_init_90 : decode cX8_init 90 = .ok (.iload_n 1, 1) := by decide +kernel
theorem dX8_init_91 : decode cX8_init 91 = .ok (.bipush 6, 2) := by decide +kernel
theorem dX8_init_93 : decode cX8_init 93 = .ok (.if_icmp .ge 22, 3) := by decide +kernel
theorem dX8_init_96 : decode cX8_init 96 = .ok (.aload_n 0, 1) := by decide +kernel
theorem dX8_init_97 : decode cX8_init 97 = .ok (.getfield 40, 3) := by decide +kernel
theorem dX8_init_100 : decode cX8_init 100 = .ok (.iload_n 1, 1) := by decide +kernel
theorem dX8_init_101 : decode cX8_init 101 = .ok (.new 38, 3) := by decide +kernel
theorem dX8_init_104 : decode cX8_init 104 = .ok (.dup, 1) := by decide +kernel
theorem dX8_init_105 : decode cX8_init 105 = .ok (.invokespecial 57, 3) := by decide +kernel
theorem dX8_init_108 : decode cX8_init 108 = .ok (.aastore, 1) := by decide +kernel
theorem dX8_init_109 : decode cX8_init 109 = .ok (.iinc 1 1, 3) := by decide +kernel
theorem dX8_init_112 : decode cX8_init 112 = .ok (.goto (-22), 3) := by decide +kernel
theorem dX8_init_115 : decode cX8_init 115 = .ok (.iconst 0, 1) := by decide +kernel
theorem dX8_init_116 : decode cX8_init 116 = .ok (.istore_n 1, 1) := by decide +kernel
theorem dX8_init_117 : decode cX8_init 117 = .ok (.iload_n 1, 1) := by decide +kernel
theorem dX8_init_118 : decode cX8_init 118 = .ok (.bipush 6, 2) := by decide +kernel
theorem dX8_init_120 : decode cX8_init 120 = .ok (.if_icmp .ge 22, 3) := by decide +kernel
theorem dX8_init_123 : decode cX8_init 123 = .ok (.aload_n 0, 1) := by decide +kernel
theorem dX8_init_124 : decode cX8_init 124 = .ok (.getfield 46, 3) := by decide +kernel
theorem dX8_init_127 : decode cX8_init 127 = .ok (.iload_n 1, 1) := by decide +kernel
theorem dX8_init_128 : decode cX8_init 128 = .ok (.new 44, 3) := by decide +kernel
theorem dX8_init_131 : decode cX8_init 131 = .ok (.dup, 1) := by decide +kernel
theorem dX8_init_132 : decode cX8_init 132 = .ok (.invokespecial 58, 3) := by decide +kernel
theorem dX8_init_135 : decode cX8_init 135 = .ok (.aastore, 1) := by decide +kernel
theorem dX8_init_136 : decode cX8_init 136 = .ok (.iinc 1 1, 3) := by decide +kernel
theorem dX8_init_139 : decode cX8_init 139 = .ok (.goto (-22), 3) := by decide +kernel
theorem dX8_init_142 : decode cX8_init 142 = .ok (.return_, 1) := by decide +kernel
theorem dX8_bridge_0 : decode cX8_bridge 0 = .ok (.iload_n 1, 1) := by decide +kernel
theorem dX8_bridge_1 : decode cX8_bridge 1 = .ok (.invokestatic 59, 3) := by decide +kernel
theorem dX8_bridge_4 : decode cX8_bridge 4 = .ok (.ifCond .eq 10, 3) := by decide +kernel
theorem dX8_bridge_7 : decode cX8_bridge 7 = .ok (.iload_n 2, 1) := by decide +kernel
theorem dX8_bridge_8 : decode cX8_bridge 8 = .ok (.invokestatic 59, 3) := by decide +kernel
theorem dX8_bridge_11 : decode cX8_bridge 11 = .ok (.ifCond .ne 5, 3) := by decide +kernel
theorem dX8_bridge_14 : decode cX8_bridge 14 = .ok (.iconst (-1), 1) := by decide +kernel
theorem dX8_bridge_15 : decode cX8_bridge 15 = .ok (.ireturn, 1) := by decide +kernel
theorem dX8_bridge_16 : decode cX8_bridge 16 = .ok (.iload_n 1, 1) := by decide +kernel
theorem dX8_bridge_17 : decode cX8_bridge 17 = .ok (.iload_n 2, 1) := by decide +kernel
theorem dX8_bridge_18 : decode cX8_bridge 18 = .ok (.if_icmp .ne 6, 3) := by decide +kernel
theorem dX8_bridge_21 : decode cX8_bridge 21 = .ok (.bipush (-2), 2) := by decide +kernel
theorem dX8_bridge_23 : decode cX8_bridge 23 = .ok (.ireturn, 1) := by decide +kernel
theorem dX8_bridge_24 : decode cX8_bridge 24 = .ok (.aload_n 0, 1) := by decide +kernel
theorem dX8_bridge_25 : decode cX8_bridge 25 = .ok (.getfield 14, 3) := by decide +kernel
theorem dX8_bridge_28 : decode cX8_bridge 28 = .ok (.iload_n 1, 1) := by decide +kernel
theorem dX8_bridge_29 : decode cX8_bridge 29 = .ok (.iload_n 2, 1) := by decide +kernel
theorem dX8_bridge_30 : decode cX8_bridge 30 = .ok (.invokevirtual 63, 3) := by decide +kernel
theorem dX8_bridge_33 : decode cX8_bridge 33 = .ok (.ireturn, 1) := by decide +kernel
theorem dX8_one_0 : decode cX8_one 0 = .ok (.iload_n 1, 1) := by decide +kernel
theorem dX8_one_1 : decode cX8_one 1 = .ok (.ifCond .lt 16, 3) := by decide +kernel
theorem dX8_one_4 : decode cX8_one 4 = .ok (.iload_n 1, 1) := by decide +kernel
theorem dX8_one_5 : decode cX8_one 5 = .ok (.bipush 7, 2) := by decide +kernel
theorem dX8_one_7 : decode cX8_one 7 = .ok (.if_icmp .ge 10, 3) := by decide +kernel
theorem dX8_one_10 : decode cX8_one 10 = .ok (.iload_n 3, 1) := by decide +kernel
theorem dX8_one_11 : decode cX8_one 11 = .ok (.invokestatic 59, 3) := by decide +kernel
theorem dX8_one_14 : decode cX8_one 14 = .ok (.ifCond .ne 5, 3) := by decide +kernel
theorem dX8_one_17 : decode cX8_one 17 = .ok (.iconst (-1), 1) := by decide +kernel
theorem dX8_one_18 : decode cX8_one 18 = .ok (.ireturn, 1) := by decide +kernel
theorem dX8_one_19 : decode cX8_one 19 = .ok (.iload_n 2, 1) := by decide +kernel
theorem dX8_one_20 : decode cX8_one 20 = .ok (.ifCond .lt 9, 3) := by decide +kernel
theorem dX8_one_23 : decode cX8_one 23 = .ok (.iload_n 2, 1) := by decide +kernel
theorem dX8_one_24 : decode cX8_one 24 = .ok (.bipush 9, 2) := by decide +kernel
theorem dX8_one_26 : decode cX8_one 26 = .ok (.if_icmp .le 6, 3) := by decide +kernel
theorem dX8_one_29 : decode cX8_one 29 = .ok (.bipush (-2), 2) := by decide +kernel
theorem dX8_one_31 : decode cX8_one 31 = .ok (.ireturn, 1) := by decide +kernel
theorem dX8_one_32 : decode cX8_one 32 = .ok (.aload_n 0, 1) := by decide +kernel
theorem dX8_one_33 : decode cX8_one 33 = .ok (.getfield 14, 3) := by decide +kernel
theorem dX8_one_36 : decode cX8_one 36 = .ok (.iload_n 1, 1) := by decide +kernel
theorem dX8_one_37 : decode cX8_one 37 = .ok (.iload_n 2, 1) := by decide +kernel
theorem dX8_one_38 : decode cX8_one 38 = .ok (.iload_n 3, 1) := by decide +kernel
theorem dX8_one_39 : decode cX8_one 39 = .ok (.invokevirtual 67, 3) := by decide +kernel
theorem dX8_one_42 : decode cX8_one 42 = .ok (.ireturn, 1) := by decide +kernel
theorem dX8_of_0 : decode cX8_of 0 = .ok (.aload_n 0, 1) := by decide +kernel
theorem dX8_of_1 : decode cX8_of 1 = .ok (.iload_n 1, 1) := by decide +kernel
theorem dX8_of_2 : decode cX8_of 2 = .ok (.invokevirtual 71, 3) := by decide +kernel
theorem dX8_of_5 : decode cX8_of 5 = .ok (.ifCond .ne 7, 3) := by decide +kernel
theorem dX8_of_8 : decode cX8_of 8 = .ok (.sipush (-10001), 3) := by decide +kernel
theorem dX8_of_11 : decode cX8_of 11 = .ok (.ireturn, 1) := by decide +kernel
theorem dX8_of_12 : decode cX8_of 12 = .ok (.aload_n 0, 1) := by decide +kernel
theorem dX8_of_13 : decode cX8_of 13 = .ok (.getfield 14, 3) := by decide +kernel
theorem dX8_of_16 : decode cX8_of 16 = .ok (.getfield 74, 3) := by decide +kernel
theorem dX8_of_19 : decode cX8_of 19 = .ok (.iload_n 1, 1) := by decide +kernel
theorem dX8_of_20 : decode cX8_of 20 = .ok (.aaload, 1) := by decide +kernel
theorem dX8_of_21 : decode cX8_of 21 = .ok (.astore_n 3, 1) := by decide +kernel
theorem dX8_of_22 : decode cX8_of 22 = .ok (.iload_n 2, 1) := by decide +kernel
theorem dX8_of_23 : decode cX8_of 23 = .ok (.tableswitch 104 0 8 #[49, 54, 59, 64, 69, 74, 79, 92, 98], 49) := by decide +kernel
theorem dX8_of_72 : decode cX8_of 72 = .ok (.aload_n 3, 1) := by decide +kernel
theorem dX8_of_73 : decode cX8_of 73 = .ok (.getfield 78, 3) := by decide +kernel
theorem dX8_of_76 : decode cX8_of 76 = .ok (.ireturn, 1) := by decide +kernel
theorem dX8_of_77 : decode cX8_of 77 = .ok (.aload_n 3, 1) := by decide +kernel
theorem dX8_of_78 : decode cX8_of 78 = .ok (.getfield 84, 3) := by decide +kernel
theorem dX8_of_81 : decode cX8_of 81 = .ok (.ireturn, 1) := by decide +kernel
theorem dX8_of_82 : decode cX8_of 82 = .ok (.aload_n 3, 1) := by decide +kernel
theorem dX8_of_83 : decode cX8_of 83 = .ok (.getfield 87, 3) := by decide +kernel
theorem dX8_of_86 : decode cX8_of 86 = .ok (.ireturn, 1) := by decide +kernel
theorem dX8_of_87 : decode cX8_of 87 = .ok (.aload_n 3, 1) := by decide +kernel
theorem dX8_of_88 : decode cX8_of 88 = .ok (.getfield 90, 3) := by decide +kernel
theorem dX8_of_91 : decode cX8_of 91 = .ok (.ireturn, 1) := by decide +kernel
theorem dX8_of_92 : decode cX8_of 92 = .ok (.aload_n 3, 1) := by decide +kernel
theorem dX8_of_93 : decode cX8_of 93 = .ok (.getfield 93, 3) := by decide +kernel
theorem dX8_of_96 : decode cX8_of 96 = .ok (.ireturn, 1) := by decide +kernel
theorem dX8_of_97 : decode cX8_of 97 = .ok (.aload_n 3, 1) := by decide +kernel
theorem dX8_of_98 : decode cX8_of 98 = .ok (.getfield 96, 3) := by decide +kernel
theorem dX8_of_101 : decode cX8_of 101 = .ok (.ireturn, 1) := by decide +kernel
theorem dX8_of_102 : decode cX8_of 102 = .ok (.aload_n 0, 1) := by decide +kernel
theorem dX8_of_103 : decode cX8_of 103 = .ok (.getfield 27, 3) := by decide +kernel
theorem dX8_of_106 : decode cX8_of 106 = .ok (.aload_n 0, 1) := by decide +kernel
theorem dX8_of_107 : decode cX8_of 107 = .ok (.getfield 14, 3) := by decide +kernel
theorem dX8_of_110 : decode cX8_of 110 = .ok (.iload_n 1, 1) := by decide +kernel
theorem dX8_of_111 : decode cX8_of 111 = .ok (.invokevirtual 99, 3) := by decide +kernel
theorem dX8_of_114 : decode cX8_of 114 = .ok (.ireturn, 1) := by decide +kernel
theorem dX8_of_115 : decode cX8_of 115 = .ok (.aload_n 0, 1) := by decide +kernel
theorem dX8_of_116 : decode cX8_of 116 = .ok (.iload_n 1, 1) := by decide +kernel
theorem dX8_of_117 : decode cX8_of 117 = .ok (.invokevirtual 103, 3) := by decide +kernel
theorem dX8_of_120 : decode cX8_of 120 = .ok (.ireturn, 1) := by decide +kernel
theorem dX8_of_121 : decode cX8_of 121 = .ok (.aload_n 0, 1) := by decide +kernel
theorem dX8_of_122 : decode cX8_of 122 = .ok (.iload_n 1, 1) := by decide +kernel
theorem dX8_of_123 : decode cX8_of 123 = .ok (.invokevirtual 107, 3) := by decide +kernel
theorem dX8_of_126 : decode cX8_of 126 = .ok (.ireturn, 1) := by decide +kernel
theorem dX8_of_127 : decode cX8_of 127 = .ok (.aload_n 0, 1) := by decide +kernel
theorem dX8_of_128 : decode cX8_of 128 = .ok (.iload_n 1, 1) := by decide +kernel
theorem dX8_of_129 : decode cX8_of 129 = .ok (.iload_n 2, 1) := by decide +kernel
theorem dX8_of_130 : decode cX8_of 130 = .ok (.invokevirtual 110, 3) := by decide +kernel
theorem dX8_of_133 : decode cX8_of 133 = .ok (.ireturn, 1) := by decide +kernel
theorem dX8_span_0 : decode cX8_span 0 = .ok (.aload_n 0, 1) := by decide +kernel
theorem dX8_span_1 : decode cX8_span 1 = .ok (.iload_n 1, 1) := by decide +kernel
theorem dX8_span_2 : decode cX8_span 2 = .ok (.invokevirtual 113, 3) := by decide +kernel
theorem dX8_span_5 : decode cX8_span 5 = .ok (.ifCond .ne 5, 3) := by decide +kernel
theorem dX8_span_8 : decode cX8_span 8 = .ok (.iconst (-1), 1) := by decide +kernel
theorem dX8_span_9 : decode cX8_span 9 = .ok (.ireturn, 1) := by decide +kernel
theorem dX8_span_10 : decode cX8_span 10 = .ok (.iload_n 2, 1) := by decide +kernel
theorem dX8_span_11 : decode cX8_span 11 = .ok (.tableswitch 71 0 3 #[29, 39, 49, 59], 29) := by decide +kernel
theorem dX8_span_40 : decode cX8_span 40 = .ok (.aload_n 0, 1) := by decide +kernel
theorem dX8_span_41 : decode cX8_span 41 = .ok (.getfield 14, 3) := by decide +kernel
theorem dX8_span_44 : decode cX8_span 44 = .ok (.getfield 116, 3) := by decide +kernel
theorem dX8_span_47 : decode cX8_span 47 = .ok (.iload_n 1, 1) := by decide +kernel
theorem dX8_span_48 : decode cX8_span 48 = .ok (.iaload, 1) := by decide +kernel
theorem dX8_span_49 : decode cX8_span 49 = .ok (.ireturn, 1) := by decide +kernel
theorem dX8_span_50 : decode cX8_span 50 = .ok (.aload_n 0, 1) := by decide +kernel
theorem dX8_span_51 : decode cX8_span 51 = .ok (.getfield 14, 3) := by decide +kernel
theorem dX8_span_54 : decode cX8_span 54 = .ok (.getfield 120, 3) := by decide +kernel
theorem dX8_span_57 : decode cX8_span 57 = .ok (.iload_n 1, 1) := by decide +kernel
theorem dX8_span_58 : decode cX8_span 58 = .ok (.iaload, 1) := by decide +kernel
theorem dX8_span_59 : decode cX8_span 59 = .ok (.ireturn, 1) := by decide +kernel
theorem dX8_span_60 : decode cX8_span 60 = .ok (.aload_n 0, 1) := by decide +kernel
theorem dX8_span_61 : decode cX8_span 61 = .ok (.getfield 14, 3) := by decide +kernel
theorem dX8_span_64 : decode cX8_span 64 = .ok (.getfield 123, 3) := by decide +kernel
theorem dX8_span_67 : decode cX8_span 67 = .ok (.iload_n 1, 1) := by decide +kernel
theorem dX8_span_68 : decode cX8_span 68 = .ok (.iaload, 1) := by decide +kernel
theorem dX8_span_69 : decode cX8_span 69 = .ok (.ireturn, 1) := by decide +kernel
theorem dX8_span_70 : decode cX8_span 70 = .ok (.aload_n 0, 1) := by decide +kernel
theorem dX8_span_71 : decode cX8_span 71 = .ok (.getfield 14, 3) := by decide +kernel
theorem dX8_span_74 : decode cX8_span 74 = .ok (.getfield 126, 3) := by decide +kernel
theorem dX8_span_77 : decode cX8_span 77 = .ok (.iload_n 1, 1) := by decide +kernel
theorem dX8_span_78 : decode cX8_span 78 = .ok (.ishr, 1) := by decide +kernel
theorem dX8_span_79 : decode cX8_span 79 = .ok (.iconst 1, 1) := by decide +kernel
theorem dX8_span_80 : decode cX8_span 80 = .ok (.iand, 1) := by decide +kernel
theorem dX8_span_81 : decode cX8_span 81 = .ok (.ireturn, 1) := by decide +kernel
theorem dX8_span_82 : decode cX8_span 82 = .ok (.iconst (-1), 1) := by decide +kernel
theorem dX8_span_83 : decode cX8_span 83 = .ok (.ireturn, 1) := by decide +kernel
theorem dX8_errand_0 : decode cX8_errand 0 = .ok (.aload_n 0, 1) := by decide +kernel
theorem dX8_errand_1 : decode cX8_errand 1 = .ok (.iload_n 1, 1) := by decide +kernel
theorem dX8_errand_2 : decode cX8_errand 2 = .ok (.invokevirtual 71, 3) := by decide +kernel
theorem dX8_errand_5 : decode cX8_errand 5 = .ok (.ifCond .eq 15, 3) := by decide +kernel
theorem dX8_errand_8 : decode cX8_errand 8 = .ok (.iload_n 2, 1) := by decide +kernel
theorem dX8_errand_9 : decode cX8_errand 9 = .ok (.iconst (-1), 1) := by decide +kernel
theorem dX8_errand_10 : decode cX8_errand 10 = .ok (.if_icmp .eq 12, 3) := by decide +kernel
theorem dX8_errand_13 : decode cX8_errand 13 = .ok (.iload_n 2, 1) := by decide +kernel
theorem dX8_errand_14 : decode cX8_errand 14 = .ok (.invokestatic 59, 3) := by decide +kernel
theorem dX8_errand_17 : decode cX8_errand 17 = .ok (.ifCond .ne 5, 3) := by decide +kernel
theorem dX8_errand_20 : decode cX8_errand 20 = .ok (.iconst (-1), 1) := by decide +kernel
theorem dX8_errand_21 : decode cX8_errand 21 = .ok (.ireturn, 1) := by decide +kernel
theorem dX8_errand_22 : decode cX8_errand 22 = .ok (.aload_n 0, 1) := by decide +kernel
theorem dX8_errand_23 : decode cX8_errand 23 = .ok (.getfield 14, 3) := by decide +kernel
theorem dX8_errand_26 : decode cX8_errand 26 = .ok (.getfield 74, 3) := by decide +kernel
theorem dX8_errand_29 : decode cX8_errand 29 = .ok (.iload_n 1, 1) := by decide +kernel
theorem dX8_errand_30 : decode cX8_errand 30 = .ok (.aaload, 1) := by decide +kernel
theorem dX8_errand_31 : decode cX8_errand 31 = .ok (.astore_n 3, 1) := by decide +kernel
theorem dX8_errand_32 : decode cX8_errand 32 = .ok (.aload_n 3, 1) := by decide +kernel
theorem dX8_errand_33 : decode cX8_errand 33 = .ok (.getfield 93, 3) := by decide +kernel
theorem dX8_errand_36 : decode cX8_errand 36 = .ok (.istore 4, 2) := by decide +kernel
theorem dX8_errand_38 : decode cX8_errand 38 = .ok (.aload_n 3, 1) := by decide +kernel
theorem dX8_errand_39 : decode cX8_errand 39 = .ok (.iload_n 2, 1) := by decide +kernel
theorem dX8_errand_40 : decode cX8_errand 40 = .ok (.iconst (-1), 1) := by decide +kernel
theorem dX8_errand_41 : decode cX8_errand 41 = .ok (.if_icmp .ne 8, 3) := by decide +kernel
theorem dX8_errand_44 : decode cX8_errand 44 = .ok (.bipush (-5), 2) := by decide +kernel
theorem dX8_errand_46 : decode cX8_errand 46 = .ok (.goto 4, 3) := by decide +kernel
theorem dX8_errand_49 : decode cX8_errand 49 = .ok (.iload_n 2, 1) := by decide +kernel
theorem dX8_errand_50 : decode cX8_errand 50 = .ok (.putfield 93, 3) := by decide +kernel
theorem dX8_errand_53 : decode cX8_errand 53 = .ok (.iload 4, 2) := by decide +kernel
theorem dX8_errand_55 : decode cX8_errand 55 = .ok (.ireturn, 1) := by decide +kernel
theorem dX8_cross_0 : decode cX8_cross 0 = .ok (.aload_n 0, 1) := by decide +kernel
theorem dX8_cross_1 : decode cX8_cross 1 = .ok (.iload_n 1, 1) := by decide +kernel
theorem dX8_cross_2 : decode cX8_cross 2 = .ok (.invokevirtual 71, 3) := by decide +kernel
theorem dX8_cross_5 : decode cX8_cross 5 = .ok (.ifCond .eq 11, 3) := by decide +kernel
theorem dX8_cross_8 : decode cX8_cross 8 = .ok (.aload_n 0, 1) := by decide +kernel
theorem dX8_cross_9 : decode cX8_cross 9 = .ok (.iload_n 2, 1) := by decide +kernel
theorem dX8_cross_10 : decode cX8_cross 10 = .ok (.invokevirtual 113, 3) := by decide +kernel
theorem dX8_cross_13 : decode cX8_cross 13 = .ok (.ifCond .ne 5, 3) := by decide +kernel
theorem dX8_cross_16 : decode cX8_cross 16 = .ok (.iconst (-1), 1) := by decide +kernel
theorem dX8_cross_17 : decode cX8_cross 17 = .ok (.ireturn, 1) := by decide +kernel
theorem dX8_cross_18 : decode cX8_cross 18 = .ok (.aload_n 0, 1) := by decide +kernel
theorem dX8_cross_19 : decode cX8_cross 19 = .ok (.iload_n 1, 1) := by decide +kernel
theorem dX8_cross_20 : decode cX8_cross 20 = .ok (.invokevirtual 107, 3) := by decide +kernel
theorem dX8_cross_23 : decode cX8_cross 23 = .ok (.iload_n 2, 1) := by decide +kernel
theorem dX8_cross_24 : decode cX8_cross 24 = .ok (.ishr, 1) := by decide +kernel
theorem dX8_cross_25 : decode cX8_cross 25 = .ok (.iconst 1, 1) := by decide +kernel
theorem dX8_cross_26 : decode cX8_cross 26 = .ok (.iand, 1) := by decide +kernel
theorem dX8_cross_27 : decode cX8_cross 27 = .ok (.ifCond .ne 6, 3) := by decide +kernel
theorem dX8_cross_30 : decode cX8_cross 30 = .ok (.bipush (-3), 2) := by decide +kernel
theorem dX8_cross_32 : decode cX8_cross 32 = .ok (.ireturn, 1) := by decide +kernel
theorem dX8_cross_33 : decode cX8_cross 33 = .ok (.aload_n 0, 1) := by decide +kernel
theorem dX8_cross_34 : decode cX8_cross 34 = .ok (.getfield 14, 3) := by decide +kernel
theorem dX8_cross_37 : decode cX8_cross 37 = .ok (.iload_n 1, 1) := by decide +kernel
theorem dX8_cross_38 : decode cX8_cross 38 = .ok (.iload_n 2, 1) := by decide +kernel
theorem dX8_cross_39 : decode cX8_cross 39 = .ok (.invokevirtual 129, 3) := by decide +kernel
theorem dX8_cross_42 : decode cX8_cross 42 = .ok (.aload_n 0, 1) := by decide +kernel
theorem dX8_cross_43 : decode cX8_cross 43 = .ok (.getfield 14, 3) := by decide +kernel
theorem dX8_cross_46 : decode cX8_cross 46 = .ok (.getfield 74, 3) := by decide +kernel
theorem dX8_cross_49 : decode cX8_cross 49 = .ok (.iload_n 1, 1) := by decide +kernel
theorem dX8_cross_50 : decode cX8_cross 50 = .ok (.aaload, 1) := by decide +kernel
theorem dX8_cross_51 : decode cX8_cross 51 = .ok (.getfield 87, 3) := by decide +kernel
theorem dX8_cross_54 : decode cX8_cross 54 = .ok (.ireturn, 1) := by decide +kernel
theorem dX8_lose_0 : decode cX8_lose 0 = .ok (.aload_n 0, 1) := by decide +kernel
theorem dX8_lose_1 : decode cX8_lose 1 = .ok (.iload_n 1, 1) := by decide +kernel
theorem dX8_lose_2 : decode cX8_lose 2 = .ok (.invokevirtual 113, 3) := by decide +kernel
theorem dX8_lose_5 : decode cX8_lose 5 = .ok (.ifCond .ne 5, 3) := by decide +kernel
theorem dX8_lose_8 : decode cX8_lose 8 = .ok (.iconst (-1), 1) := by decide +kernel
theorem dX8_lose_9 : decode cX8_lose 9 = .ok (.ireturn, 1) := by decide +kernel
theorem dX8_lose_10 : decode cX8_lose 10 = .ok (.aload_n 0, 1) := by decide +kernel
theorem dX8_lose_11 : decode cX8_lose 11 = .ok (.getfield 14, 3) := by decide +kernel
theorem dX8_lose_14 : decode cX8_lose 14 = .ok (.getfield 126, 3) := by decide +kernel
theorem dX8_lose_17 : decode cX8_lose 17 = .ok (.iload_n 1, 1) := by decide +kernel
theorem dX8_lose_18 : decode cX8_lose 18 = .ok (.ishr, 1) := by decide +kernel
theorem dX8_lose_19 : decode cX8_lose 19 = .ok (.iconst 1, 1) := by decide +kernel
theorem dX8_lose_20 : decode cX8_lose 20 = .ok (.iand, 1) := by decide +kernel
theorem dX8_lose_21 : decode cX8_lose 21 = .ok (.istore_n 3, 1) := by decide +kernel
theorem dX8_lose_22 : decode cX8_lose 22 = .ok (.aload_n 0, 1) := by decide +kernel
theorem dX8_lose_23 : decode cX8_lose 23 = .ok (.getfield 14, 3) := by decide +kernel
theorem dX8_lose_26 : decode cX8_lose 26 = .ok (.iload_n 1, 1) := by decide +kernel
theorem dX8_lose_27 : decode cX8_lose 27 = .ok (.iload_n 2, 1) := by decide +kernel
theorem dX8_lose_28 : decode cX8_lose 28 = .ok (.invokevirtual 133, 3) := by decide +kernel
theorem dX8_lose_31 : decode cX8_lose 31 = .ok (.iload_n 3, 1) := by decide +kernel
theorem dX8_lose_32 : decode cX8_lose 32 = .ok (.ireturn, 1) := by decide +kernel
theorem dX8_swap_0 : decode cX8_swap 0 = .ok (.aload_n 0, 1) := by decide +kernel
theorem dX8_swap_1 : decode cX8_swap 1 = .ok (.iload_n 1, 1) := by decide +kernel
theorem dX8_swap_2 : decode cX8_swap 2 = .ok (.invokevirtual 113, 3) := by decide +kernel
theorem dX8_swap_5 : decode cX8_swap 5 = .ok (.ifCond .eq 11, 3) := by decide +kernel
theorem dX8_swap_8 : decode cX8_swap 8 = .ok (.aload_n 0, 1) := by decide +kernel
theorem dX8_swap_9 : decode cX8_swap 9 = .ok (.iload_n 2, 1) := by decide +kernel
theorem dX8_swap_10 : decode cX8_swap 10 = .ok (.invokevirtual 113, 3) := by decide +kernel
theorem dX8_swap_13 : decode cX8_swap 13 = .ok (.ifCond .ne 5, 3) := by decide +kernel
theorem dX8_swap_16 : decode cX8_swap 16 = .ok (.iconst (-1), 1) := by decide +kernel
theorem dX8_swap_17 : decode cX8_swap 17 = .ok (.ireturn, 1) := by decide +kernel
theorem dX8_swap_18 : decode cX8_swap 18 = .ok (.aload_n 0, 1) := by decide +kernel
theorem dX8_swap_19 : decode cX8_swap 19 = .ok (.getfield 14, 3) := by decide +kernel
theorem dX8_swap_22 : decode cX8_swap 22 = .ok (.iload_n 1, 1) := by decide +kernel
theorem dX8_swap_23 : decode cX8_swap 23 = .ok (.iload_n 2, 1) := by decide +kernel
theorem dX8_swap_24 : decode cX8_swap 24 = .ok (.invokevirtual 137, 3) := by decide +kernel
theorem dX8_swap_27 : decode cX8_swap 27 = .ok (.ifCond .ne 6, 3) := by decide +kernel
theorem dX8_swap_30 : decode cX8_swap 30 = .ok (.bipush (-3), 2) := by decide +kernel
theorem dX8_swap_32 : decode cX8_swap 32 = .ok (.ireturn, 1) := by decide +kernel
theorem dX8_swap_33 : decode cX8_swap 33 = .ok (.aload_n 0, 1) := by decide +kernel
theorem dX8_swap_34 : decode cX8_swap 34 = .ok (.getfield 14, 3) := by decide +kernel
theorem dX8_swap_37 : decode cX8_swap 37 = .ok (.iload_n 1, 1) := by decide +kernel
theorem dX8_swap_38 : decode cX8_swap 38 = .ok (.iload_n 2, 1) := by decide +kernel
theorem dX8_swap_39 : decode cX8_swap 39 = .ok (.invokevirtual 141, 3) := by decide +kernel
theorem dX8_swap_42 : decode cX8_swap 42 = .ok (.aload_n 0, 1) := by decide +kernel
theorem dX8_swap_43 : decode cX8_swap 43 = .ok (.getfield 14, 3) := by decide +kernel
theorem dX8_swap_46 : decode cX8_swap 46 = .ok (.getfield 123, 3) := by decide +kernel
theorem dX8_swap_49 : decode cX8_swap 49 = .ok (.iload_n 1, 1) := by decide +kernel
theorem dX8_swap_50 : decode cX8_swap 50 = .ok (.iaload, 1) := by decide +kernel
theorem dX8_swap_51 : decode cX8_swap 51 = .ok (.ireturn, 1) := by decide +kernel
theorem dX8_row_0 : decode cX8_row 0 = .ok (.aload_n 0, 1) := by decide +kernel
theorem dX8_row_1 : decode cX8_row 1 = .ok (.iload_n 1, 1) := by decide +kernel
theorem dX8_row_2 : decode cX8_row 2 = .ok (.invokevirtual 71, 3) := by decide +kernel
theorem dX8_row_5 : decode cX8_row 5 = .ok (.ifCond .eq 12, 3) := by decide +kernel
theorem dX8_row_8 : decode cX8_row 8 = .ok (.iload_n 2, 1) := by decide +kernel
theorem dX8_row_9 : decode cX8_row 9 = .ok (.ifCond .lt 8, 3) := by decide +kernel
theorem dX8_row_12 : decode cX8_row 12 = .ok (.iload_n 2, 1) := by decide +kernel
theorem dX8_row_13 : decode cX8_row 13 = .ok (.iconst 4, 1) := by decide +kernel
theorem dX8_row_14 : decode cX8_row 14 = .ok (.if_icmp .lt 5, 3) := by decide +kernel
theorem dX8_row_17 : decode cX8_row 17 = .ok (.iconst (-1), 1) := by decide +kernel
theorem dX8_row_18 : decode cX8_row 18 = .ok (.ireturn, 1) := by decide +kernel
theorem dX8_row_19 : decode cX8_row 19 = .ok (.iload_n 3, 1) := by decide +kernel
theorem dX8_row_20 : decode cX8_row 20 = .ok (.ifCond .lt 9, 3) := by decide +kernel
theorem dX8_row_23 : decode cX8_row 23 = .ok (.iload_n 3, 1) := by decide +kernel
theorem dX8_row_24 : decode cX8_row 24 = .ok (.bipush 9, 2) := by decide +kernel
theorem dX8_row_26 : decode cX8_row 26 = .ok (.if_icmp .le 6, 3) := by decide +kernel
theorem dX8_row_29 : decode cX8_row 29 = .ok (.bipush (-2), 2) := by decide +kernel
theorem dX8_row_31 : decode cX8_row 31 = .ok (.ireturn, 1) := by decide +kernel
theorem dX8_row_32 : decode cX8_row 32 = .ok (.aload_n 0, 1) := by decide +kernel
theorem dX8_row_33 : decode cX8_row 33 = .ok (.getfield 14, 3) := by decide +kernel
theorem dX8_row_36 : decode cX8_row 36 = .ok (.getfield 74, 3) := by decide +kernel
theorem dX8_row_39 : decode cX8_row 39 = .ok (.iload_n 1, 1) := by decide +kernel
theorem dX8_row_40 : decode cX8_row 40 = .ok (.aaload, 1) := by decide +kernel
theorem dX8_row_41 : decode cX8_row 41 = .ok (.astore 4, 2) := by decide +kernel
theorem dX8_row_43 : decode cX8_row 43 = .ok (.aload 4, 2) := by decide +kernel
theorem dX8_row_45 : decode cX8_row 45 = .ok (.getfield 78, 3) := by decide +kernel
theorem dX8_row_48 : decode cX8_row 48 = .ok (.bipush 6, 2) := by decide +kernel
theorem dX8_row_50 : decode cX8_row 50 = .ok (.if_icmp .eq 6, 3) := by decide +kernel
theorem dX8_row_53 : decode cX8_row 53 = .ok (.bipush (-3), 2) := by decide +kernel
theorem dX8_row_55 : decode cX8_row 55 = .ok (.ireturn, 1) := by decide +kernel
theorem dX8_row_56 : decode cX8_row 56 = .ok (.aload 4, 2) := by decide +kernel
theorem dX8_row_58 : decode cX8_row 58 = .ok (.getfield 144, 3) := by decide +kernel
theorem dX8_row_61 : decode cX8_row 61 = .ok (.iload_n 2, 1) := by decide +kernel
theorem dX8_row_62 : decode cX8_row 62 = .ok (.iaload, 1) := by decide +kernel
theorem dX8_row_63 : decode cX8_row 63 = .ok (.istore 5, 2) := by decide +kernel
theorem dX8_row_65 : decode cX8_row 65 = .ok (.aload 4, 2) := by decide +kernel
theorem dX8_row_67 : decode cX8_row 67 = .ok (.getfield 144, 3) := by decide +kernel
theorem dX8_row_70 : decode cX8_row 70 = .ok (.iload_n 2, 1) := by decide +kernel
theorem dX8_row_71 : decode cX8_row 71 = .ok (.iload_n 3, 1) := by decide +kernel
theorem dX8_row_72 : decode cX8_row 72 = .ok (.iastore, 1) := by decide +kernel
theorem dX8_row_73 : decode cX8_row 73 = .ok (.iload 5, 2) := by decide +kernel
theorem dX8_row_75 : decode cX8_row 75 = .ok (.ireturn, 1) := by decide +kernel
theorem dX8_feed_0 : decode cX8_feed 0 = .ok (.iload_n 1, 1) := by decide +kernel
theorem dX8_feed_1 : decode cX8_feed 1 = .ok (.ifCond .lt 9, 3) := by decide +kernel
theorem dX8_feed_4 : decode cX8_feed 4 = .ok (.iload_n 1, 1) := by decide +kernel
theorem dX8_feed_5 : decode cX8_feed 5 = .ok (.bipush 127, 2) := by decide +kernel
theorem dX8_feed_7 : decode cX8_feed 7 = .ok (.if_icmp .le 6, 3) := by decide +kernel
theorem dX8_feed_10 : decode cX8_feed 10 = .ok (.bipush (-2), 2) := by decide +kernel
theorem dX8_feed_12 : decode cX8_feed 12 = .ok (.ireturn, 1) := by decide +kernel
theorem dX8_feed_13 : decode cX8_feed 13 = .ok (.aload_n 0, 1) := by decide +kernel
theorem dX8_feed_14 : decode cX8_feed 14 = .ok (.getfield 34, 3) := by decide +kernel
theorem dX8_feed_17 : decode cX8_feed 17 = .ok (.iload_n 1, 1) := by decide +kernel
theorem dX8_feed_18 : decode cX8_feed 18 = .ok (.invokevirtual 147, 3) := by decide +kernel
theorem dX8_feed_21 : decode cX8_feed 21 = .ok (.ireturn, 1) := by decide +kernel
theorem dX8_city_0 : decode cX8_city 0 = .ok (.aload_n 0, 1) := by decide +kernel
theorem dX8_city_1 : decode cX8_city 1 = .ok (.getfield 150, 3) := by decide +kernel
theorem dX8_city_4 : decode cX8_city 4 = .ok (.bipush 6, 2) := by decide +kernel
theorem dX8_city_6 : decode cX8_city 6 = .ok (.if_icmp .lt 6, 3) := by decide +kernel
theorem dX8_city_9 : decode cX8_city 9 = .ok (.bipush (-4), 2) := by decide +kernel
theorem dX8_city_11 : decode cX8_city 11 = .ok (.ireturn, 1) := by decide +kernel
theorem dX8_city_12 : decode cX8_city 12 = .ok (.aload_n 0, 1) := by decide +kernel
theorem dX8_city_13 : decode cX8_city 13 = .ok (.getfield 40, 3) := by decide +kernel
theorem dX8_city_16 : decode cX8_city 16 = .ok (.aload_n 0, 1) := by decide +kernel
theorem dX8_city_17 : decode cX8_city 17 = .ok (.getfield 150, 3) := by decide +kernel
theorem dX8_city_20 : decode cX8_city 20 = .ok (.aaload, 1) := by decide +kernel
theorem dX8_city_21 : decode cX8_city 21 = .ok (.astore_n 1, 1) := by decide +kernel
theorem dX8_city_22 : decode cX8_city 22 = .ok (.aload_n 0, 1) := by decide +kernel
theorem dX8_city_23 : decode cX8_city 23 = .ok (.getfield 34, 3) := by decide +kernel
theorem dX8_city_26 : decode cX8_city 26 = .ok (.aload_n 1, 1) := by decide +kernel
theorem dX8_city_27 : decode cX8_city 27 = .ok (.invokevirtual 153, 3) := by decide +kernel
theorem dX8_city_30 : decode cX8_city 30 = .ok (.istore_n 2, 1) := by decide +kernel
theorem dX8_city_31 : decode cX8_city 31 = .ok (.aload_n 0, 1) := by decide +kernel
theorem dX8_city_32 : decode cX8_city 32 = .ok (.getfield 34, 3) := by decide +kernel
theorem dX8_city_35 : decode cX8_city 35 = .ok (.iconst 0, 1) := by decide +kernel
theorem dX8_city_36 : decode cX8_city 36 = .ok (.putfield 157, 3) := by decide +kernel
theorem dX8_city_39 : decode cX8_city 39 = .ok (.iload_n 2, 1) := by decide +kernel
theorem dX8_city_40 : decode cX8_city 40 = .ok (.ifCond .lt 8, 3) := by decide +kernel
theorem dX8_city_43 : decode cX8_city 43 = .ok (.bipush (-10), 2) := by decide +kernel
theorem dX8_city_45 : decode cX8_city 45 = .ok (.iload_n 2, 1) := by decide +kernel
theorem dX8_city_46 : decode cX8_city 46 = .ok (.isub, 1) := by decide +kernel
theorem dX8_city_47 : decode cX8_city 47 = .ok (.ireturn, 1) := by decide +kernel
theorem dX8_city_48 : decode cX8_city 48 = .ok (.aload_n 0, 1) := by decide +kernel
theorem dX8_city_49 : decode cX8_city 49 = .ok (.getfield 14, 3) := by decide +kernel
theorem dX8_city_52 : decode cX8_city 52 = .ok (.aload_n 1, 1) := by decide +kernel
theorem dX8_city_53 : decode cX8_city 53 = .ok (.putfield 160, 3) := by decide +kernel
theorem dX8_city_56 : decode cX8_city 56 = .ok (.aload_n 0, 1) := by decide +kernel
theorem dX8_city_57 : decode cX8_city 57 = .ok (.dup, 1) := by decide +kernel
theorem dX8_city_58 : decode cX8_city 58 = .ok (.getfield 150, 3) := by decide +kernel
theorem dX8_city_61 : decode cX8_city 61 = .ok (.dup_x1, 1) := by decide +kernel
theorem dX8_city_62 : decode cX8_city 62 = .ok (.iconst 1, 1) := by decide +kernel
theorem dX8_city_63 : decode cX8_city 63 = .ok (.iadd, 1) := by decide +kernel
theorem dX8_city_64 : decode cX8_city 64 = .ok (.putfield 150, 3) := by decide +kernel
theorem dX8_city_67 : decode cX8_city 67 = .ok (.ireturn, 1) := by decide +kernel
theorem dX8_told_0 : decode cX8_told 0 = .ok (.iload_n 1, 1) := by decide +kernel
theorem dX8_told_1 : decode cX8_told 1 = .ok (.tableswitch 75 0 4 #[35, 43, 51, 59, 67], 35) := by decide +kernel
theorem dX8_told_36 : decode cX8_told 36 = .ok (.aload_n 0, 1) := by decide +kernel
theorem dX8_told_37 : decode cX8_told 37 = .ok (.getfield 14, 3) := by decide +kernel
theorem dX8_told_40 : decode cX8_told 40 = .ok (.getfield 164, 3) := by decide +kernel
theorem dX8_told_43 : decode cX8_told 43 = .ok (.ireturn, 1) := by decide +kernel
theorem dX8_told_44 : decode cX8_told 44 = .ok (.aload_n 0, 1) := by decide +kernel
theorem dX8_told_45 : decode cX8_told 45 = .ok (.getfield 14, 3) := by decide +kernel
theorem dX8_told_48 : decode cX8_told 48 = .ok (.invokevirtual 167, 3) := by decide +kernel
theorem dX8_told_51 : decode cX8_told 51 = .ok (.ireturn, 1) := by decide +kernel
theorem dX8_told_52 : decode cX8_told 52 = .ok (.aload_n 0, 1) := by decide +kernel
theorem dX8_told_53 : decode cX8_told 53 = .ok (.getfield 14, 3) := by decide +kernel
theorem dX8_told_56 : decode cX8_told 56 = .ok (.invokevirtual 171, 3) := by decide +kernel
theorem dX8_told_59 : decode cX8_told 59 = .ok (.ireturn, 1) := by decide +kernel
theorem dX8_told_60 : decode cX8_told 60 = .ok (.aload_n 0, 1) := by decide +kernel
theorem dX8_told_61 : decode cX8_told 61 = .ok (.getfield 14, 3) := by decide +kernel
theorem dX8_told_64 : decode cX8_told 64 = .ok (.invokevirtual 174, 3) := by decide +kernel
theorem dX8_told_67 : decode cX8_told 67 = .ok (.ireturn, 1) := by decide +kernel
theorem dX8_told_68 : decode cX8_told 68 = .ok (.aload_n 0, 1) := by decide +kernel
theorem dX8_told_69 : decode cX8_told 69 = .ok (.getfield 14, 3) := by decide +kernel
theorem dX8_told_72 : decode cX8_told 72 = .ok (.getfield 126, 3) := by decide +kernel
theorem dX8_told_75 : decode cX8_told 75 = .ok (.ireturn, 1) := by decide +kernel
theorem dX8_told_76 : decode cX8_told 76 = .ok (.iconst (-1), 1) := by decide +kernel
theorem dX8_told_77 : decode cX8_told 77 = .ok (.ireturn, 1) := by decide +kernel
theorem dX8_pass_0 : decode cX8_pass 0 = .ok (.iload_n 1, 1) := by decide +kernel
theorem dX8_pass_1 : decode cX8_pass 1 = .ok (.ifCond .lt 9, 3) := by decide +kernel
theorem dX8_pass_4 : decode cX8_pass 4 = .ok (.iload_n 1, 1) := by decide +kernel
theorem dX8_pass_5 : decode cX8_pass 5 = .ok (.bipush 12, 2) := by decide +kernel
theorem dX8_pass_7 : decode cX8_pass 7 = .ok (.if_icmp .le 6, 3) := by decide +kernel
theorem dX8_pass_10 : decode cX8_pass 10 = .ok (.bipush (-2), 2) := by decide +kernel
theorem dX8_pass_12 : decode cX8_pass 12 = .ok (.ireturn, 1) := by decide +kernel
theorem dX8_pass_13 : decode cX8_pass 13 = .ok (.aload_n 0, 1) := by decide +kernel
theorem dX8_pass_14 : decode cX8_pass 14 = .ok (.getfield 14, 3) := by decide +kernel
theorem dX8_pass_17 : decode cX8_pass 17 = .ok (.getfield 164, 3) := by decide +kernel
theorem dX8_pass_20 : decode cX8_pass 20 = .ok (.iload_n 1, 1) := by decide +kernel
theorem dX8_pass_21 : decode cX8_pass 21 = .ok (.iadd, 1) := by decide +kernel
theorem dX8_pass_22 : decode cX8_pass 22 = .ok (.sipush 9999, 3) := by decide +kernel
theorem dX8_pass_25 : decode cX8_pass 25 = .ok (.if_icmp .le 6, 3) := by decide +kernel
theorem dX8_pass_28 : decode cX8_pass 28 = .ok (.bipush (-3), 2) := by decide +kernel
theorem dX8_pass_30 : decode cX8_pass 30 = .ok (.ireturn, 1) := by decide +kernel
theorem dX8_pass_31 : decode cX8_pass 31 = .ok (.aload_n 0, 1) := by decide +kernel
theorem dX8_pass_32 : decode cX8_pass 32 = .ok (.aload_n 0, 1) := by decide +kernel
theorem dX8_pass_33 : decode cX8_pass 33 = .ok (.getfield 14, 3) := by decide +kernel
theorem dX8_pass_36 : decode cX8_pass 36 = .ok (.iload_n 1, 1) := by decide +kernel
theorem dX8_pass_37 : decode cX8_pass 37 = .ok (.iconst (-1), 1) := by decide +kernel
theorem dX8_pass_38 : decode cX8_pass 38 = .ok (.invokevirtual 177, 3) := by decide +kernel
theorem dX8_pass_41 : decode cX8_pass 41 = .ok (.aload_n 0, 1) := by decide +kernel
theorem dX8_pass_42 : decode cX8_pass 42 = .ok (.getfield 14, 3) := by decide +kernel
theorem dX8_pass_45 : decode cX8_pass 45 = .ok (.getfield 164, 3) := by decide +kernel
theorem dX8_pass_48 : decode cX8_pass 48 = .ok (.ireturn, 1) := by decide +kernel
theorem dX8_on_0 : decode cX8_on 0 = .ok (.iload_n 2, 1) := by decide +kernel
theorem dX8_on_1 : decode cX8_on 1 = .ok (.bipush 10, 2) := by decide +kernel
theorem dX8_on_3 : decode cX8_on 3 = .ok (.irem, 1) := by decide +kernel
theorem dX8_on_4 : decode cX8_on 4 = .ok (.istore_n 3, 1) := by decide +kernel
theorem dX8_on_5 : decode cX8_on 5 = .ok (.iload_n 2, 1) := by decide +kernel
theorem dX8_on_6 : decode cX8_on 6 = .ok (.bipush 10, 2) := by decide +kernel
theorem dX8_on_8 : decode cX8_on 8 = .ok (.if_icmp .lt 21, 3) := by decide +kernel
theorem dX8_on_11 : decode cX8_on 11 = .ok (.iload_n 2, 1) := by decide +kernel
theorem dX8_on_12 : decode cX8_on 12 = .ok (.bipush 40, 2) := by decide +kernel
theorem dX8_on_14 : decode cX8_on 14 = .ok (.if_icmp .ge 15, 3) := by decide +kernel
theorem dX8_on_17 : decode cX8_on 17 = .ok (.aload_n 0, 1) := by decide +kernel
theorem dX8_on_18 : decode cX8_on 18 = .ok (.iload_n 3, 1) := by decide +kernel
theorem dX8_on_19 : decode cX8_on 19 = .ok (.invokevirtual 71, 3) := by decide +kernel
theorem dX8_on_22 : decode cX8_on 22 = .ok (.ifCond .eq 7, 3) := by decide +kernel
theorem dX8_on_25 : decode cX8_on 25 = .ok (.iconst 1, 1) := by decide +kernel
theorem dX8_on_26 : decode cX8_on 26 = .ok (.goto 4, 3) := by decide +kernel
theorem dX8_on_29 : decode cX8_on 29 = .ok (.iconst 0, 1) := by decide +kernel
theorem dX8_on_30 : decode cX8_on 30 = .ok (.istore 4, 2) := by decide +kernel
theorem dX8_on_32 : decode cX8_on 32 = .ok (.iload_n 2, 1) := by decide +kernel
theorem dX8_on_33 : decode cX8_on 33 = .ok (.ifCond .eq 10, 3) := by decide +kernel
theorem dX8_on_36 : decode cX8_on 36 = .ok (.iload 4, 2) := by decide +kernel
theorem dX8_on_38 : decode cX8_on 38 = .ok (.ifCond .ne 5, 3) := by decide +kernel
theorem dX8_on_41 : decode cX8_on 41 = .ok (.iconst (-1), 1) := by decide +kernel
theorem dX8_on_42 : decode cX8_on 42 = .ok (.ireturn, 1) := by decide +kernel
theorem dX8_on_43 : decode cX8_on 43 = .ok (.iload_n 1, 1) := by decide +kernel
theorem dX8_on_44 : decode cX8_on 44 = .ok (.ifCond .lt 9, 3) := by decide +kernel
theorem dX8_on_47 : decode cX8_on 47 = .ok (.iload_n 1, 1) := by decide +kernel
theorem dX8_on_48 : decode cX8_on 48 = .ok (.bipush 12, 2) := by decide +kernel
theorem dX8_on_50 : decode cX8_on 50 = .ok (.if_icmp .le 6, 3) := by decide +kernel
theorem dX8_on_53 : decode cX8_on 53 = .ok (.bipush (-2), 2) := by decide +kernel
theorem dX8_on_55 : decode cX8_on 55 = .ok (.ireturn, 1) := by decide +kernel
theorem dX8_on_56 : decode cX8_on 56 = .ok (.aload_n 0, 1) := by decide +kernel
theorem dX8_on_57 : decode cX8_on 57 = .ok (.getfield 21, 3) := by decide +kernel
theorem dX8_on_60 : decode cX8_on 60 = .ok (.aload_n 0, 1) := by decide +kernel
theorem dX8_on_61 : decode cX8_on 61 = .ok (.getfield 14, 3) := by decide +kernel
theorem dX8_on_64 : decode cX8_on 64 = .ok (.invokevirtual 181, 3) := by decide +kernel
theorem dX8_on_67 : decode cX8_on 67 = .ok (.aload_n 0, 1) := by decide +kernel
theorem dX8_on_68 : decode cX8_on 68 = .ok (.aload_n 0, 1) := by decide +kernel
theorem dX8_on_69 : decode cX8_on 69 = .ok (.getfield 21, 3) := by decide +kernel
theorem dX8_on_72 : decode cX8_on 72 = .ok (.iload_n 1, 1) := by decide +kernel
theorem dX8_on_73 : decode cX8_on 73 = .ok (.iload_n 2, 1) := by decide +kernel
theorem dX8_on_74 : decode cX8_on 74 = .ok (.ifCond .ne 7, 3) := by decide +kernel
theorem dX8_on_77 : decode cX8_on 77 = .ok (.iconst (-1), 1) := by decide +kernel
theorem dX8_on_78 : decode cX8_on 78 = .ok (.goto 6, 3) := by decide +kernel
theorem dX8_on_81 : decode cX8_on 81 = .ok (.iconst 1, 1) := by decide +kernel
theorem dX8_on_82 : decode cX8_on 82 = .ok (.iload_n 3, 1) := by decide +kernel
theorem dX8_on_83 : decode cX8_on 83 = .ok (.ishl, 1) := by decide +kernel
theorem dX8_on_84 : decode cX8_on 84 = .ok (.invokevirtual 177, 3) := by decide +kernel
theorem dX8_on_87 : decode cX8_on 87 = .ok (.iload_n 2, 1) := by decide +kernel
theorem dX8_on_88 : decode cX8_on 88 = .ok (.bipush 10, 2) := by decide +kernel
theorem dX8_on_90 : decode cX8_on 90 = .ok (.idiv, 1) := by decide +kernel
theorem dX8_on_91 : decode cX8_on 91 = .ok (.tableswitch 64 1 3 #[25, 38, 51], 25) := by decide +kernel
theorem dX8_on_116 : decode cX8_on 116 = .ok (.aload_n 0, 1) := by decide +kernel
theorem dX8_on_117 : decode cX8_on 117 = .ok (.getfield 21, 3) := by decide +kernel
theorem dX8_on_120 : decode cX8_on 120 = .ok (.getfield 74, 3) := by decide +kernel
theorem dX8_on_123 : decode cX8_on 123 = .ok (.iload_n 3, 1) := by decide +kernel
theorem dX8_on_124 : decode cX8_on 124 = .ok (.aaload, 1) := by decide +kernel
theorem dX8_on_125 : decode cX8_on 125 = .ok (.getfield 87, 3) := by decide +kernel
theorem dX8_on_128 : decode cX8_on 128 = .ok (.ireturn, 1) := by decide +kernel
theorem dX8_on_129 : decode cX8_on 129 = .ok (.aload_n 0, 1) := by decide +kernel
theorem dX8_on_130 : decode cX8_on 130 = .ok (.getfield 21, 3) := by decide +kernel
theorem dX8_on_133 : decode cX8_on 133 = .ok (.getfield 74, 3) := by decide +kernel
theorem dX8_on_136 : decode cX8_on 136 = .ok (.iload_n 3, 1) := by decide +kernel
theorem dX8_on_137 : decode cX8_on 137 = .ok (.aaload, 1) := by decide +kernel
theorem dX8_on_138 : decode cX8_on 138 = .ok (.getfield 90, 3) := by decide +kernel
theorem dX8_on_141 : decode cX8_on 141 = .ok (.ireturn, 1) := by decide +kernel
theorem dX8_on_142 : decode cX8_on 142 = .ok (.aload_n 0, 1) := by decide +kernel
theorem dX8_on_143 : decode cX8_on 143 = .ok (.getfield 21, 3) := by decide +kernel
theorem dX8_on_146 : decode cX8_on 146 = .ok (.getfield 74, 3) := by decide +kernel
theorem dX8_on_149 : decode cX8_on 149 = .ok (.iload_n 3, 1) := by decide +kernel
theorem dX8_on_150 : decode cX8_on 150 = .ok (.aaload, 1) := by decide +kernel
theorem dX8_on_151 : decode cX8_on 151 = .ok (.getfield 96, 3) := by decide +kernel
theorem dX8_on_154 : decode cX8_on 154 = .ok (.ireturn, 1) := by decide +kernel
theorem dX8_on_155 : decode cX8_on 155 = .ok (.aload_n 0, 1) := by decide +kernel
theorem dX8_on_156 : decode cX8_on 156 = .ok (.getfield 21, 3) := by decide +kernel
theorem dX8_on_159 : decode cX8_on 159 = .ok (.invokevirtual 171, 3) := by decide +kernel
theorem dX8_on_162 : decode cX8_on 162 = .ok (.ireturn, 1) := by decide +kernel
theorem dX8_way_0 : decode cX8_way 0 = .ok (.aload_n 0, 1) := by decide +kernel
theorem dX8_way_1 : decode cX8_way 1 = .ok (.iload_n 1, 1) := by decide +kernel
theorem dX8_way_2 : decode cX8_way 2 = .ok (.invokevirtual 71, 3) := by decide +kernel
theorem dX8_way_5 : decode cX8_way 5 = .ok (.ifCond .eq 21, 3) := by decide +kernel
theorem dX8_way_8 : decode cX8_way 8 = .ok (.iload_n 2, 1) := by decide +kernel
theorem dX8_way_9 : decode cX8_way 9 = .ok (.invokestatic 59, 3) := by decide +kernel
theorem dX8_way_12 : decode cX8_way 12 = .ok (.ifCond .eq 14, 3) := by decide +kernel
theorem dX8_way_15 : decode cX8_way 15 = .ok (.iload_n 3, 1) := by decide +kernel
theorem dX8_way_16 : decode cX8_way 16 = .ok (.iconst (-1), 1) := by decide +kernel
theorem dX8_way_17 : decode cX8_way 17 = .ok (.if_icmp .lt 9, 3) := by decide +kernel
theorem dX8_way_20 : decode cX8_way 20 = .ok (.iload_n 3, 1) := by decide +kernel
theorem dX8_way_21 : decode cX8_way 21 = .ok (.bipush 12, 2) := by decide +kernel
theorem dX8_way_23 : decode cX8_way 23 = .ok (.if_icmp .lt 5, 3) := by decide +kernel
theorem dX8_way_26 : decode cX8_way 26 = .ok (.iconst (-1), 1) := by decide +kernel
theorem dX8_way_27 : decode cX8_way 27 = .ok (.ireturn, 1) := by decide +kernel
theorem dX8_way_28 : decode cX8_way 28 = .ok (.aload_n 0, 1) := by decide +kernel
theorem dX8_way_29 : decode cX8_way 29 = .ok (.getfield 27, 3) := by decide +kernel
theorem dX8_way_32 : decode cX8_way 32 = .ok (.aload_n 0, 1) := by decide +kernel
theorem dX8_way_33 : decode cX8_way 33 = .ok (.getfield 14, 3) := by decide +kernel
theorem dX8_way_36 : decode cX8_way 36 = .ok (.iload_n 1, 1) := by decide +kernel
theorem dX8_way_37 : decode cX8_way 37 = .ok (.iload_n 2, 1) := by decide +kernel
theorem dX8_way_38 : decode cX8_way 38 = .ok (.invokevirtual 185, 3) := by decide +kernel
theorem dX8_way_41 : decode cX8_way 41 = .ok (.istore 4, 2) := by decide +kernel
theorem dX8_way_43 : decode cX8_way 43 = .ok (.iload_n 3, 1) := by decide +kernel
theorem dX8_way_44 : decode cX8_way 44 = .ok (.iconst (-1), 1) := by decide +kernel
theorem dX8_way_45 : decode cX8_way 45 = .ok (.if_icmp .ne 8, 3) := by decide +kernel
theorem dX8_way_48 : decode cX8_way 48 = .ok (.iload 4, 2) := by decide +kernel
theorem dX8_way_50 : decode cX8_way 50 = .ok (.goto 11, 3) := by decide +kernel
theorem dX8_way_53 : decode cX8_way 53 = .ok (.aload_n 0, 1) := by decide +kernel
theorem dX8_way_54 : decode cX8_way 54 = .ok (.getfield 27, 3) := by decide +kernel
theorem dX8_way_57 : decode cX8_way 57 = .ok (.iload_n 3, 1) := by decide +kernel
theorem dX8_way_58 : decode cX8_way 58 = .ok (.invokevirtual 189, 3) := by decide +kernel
theorem dX8_way_61 : decode cX8_way 61 = .ok (.ireturn, 1) := by decide +kernel
theorem dX8_sisters_0 : decode cX8_sisters 0 = .ok (.aload_n 0, 1) := by decide +kernel
theorem dX8_sisters_1 : decode cX8_sisters 1 = .ok (.iload_n 1, 1) := by decide +kernel
theorem dX8_sisters_2 : decode cX8_sisters 2 = .ok (.invokevirtual 71, 3) := by decide +kernel
theorem dX8_sisters_5 : decode cX8_sisters 5 = .ok (.ifCond .eq 10, 3) := by decide +kernel
theorem dX8_sisters_8 : decode cX8_sisters 8 = .ok (.iload_n 2, 1) := by decide +kernel
theorem dX8_sisters_9 : decode cX8_sisters 9 = .ok (.invokestatic 59, 3) := by decide +kernel
theorem dX8_sisters_12 : decode cX8_sisters 12 = .ok (.ifCond .ne 5, 3) := by decide +kernel
theorem dX8_sisters_15 : decode cX8_sisters 15 = .ok (.iconst (-1), 1) := by decide +kernel
theorem dX8_sisters_16 : decode cX8_sisters 16 = .ok (.ireturn, 1) := by decide +kernel
theorem dX8_sisters_17 : decode cX8_sisters 17 = .ok (.aload_n 0, 1) := by decide +kernel
theorem dX8_sisters_18 : decode cX8_sisters 18 = .ok (.getfield 27, 3) := by decide +kernel
theorem dX8_sisters_21 : decode cX8_sisters 21 = .ok (.aload_n 0, 1) := by decide +kernel
theorem dX8_sisters_22 : decode cX8_sisters 22 = .ok (.getfield 14, 3) := by decide +kernel
theorem dX8_sisters_25 : decode cX8_sisters 25 = .ok (.iload_n 1, 1) := by decide +kernel
theorem dX8_sisters_26 : decode cX8_sisters 26 = .ok (.iload_n 2, 1) := by decide +kernel
theorem dX8_sisters_27 : decode cX8_sisters 27 = .ok (.invokevirtual 185, 3) := by decide +kernel
theorem dX8_sisters_30 : decode cX8_sisters 30 = .ok (.invokestatic 192, 3) := by decide +kernel
theorem dX8_sisters_33 : decode cX8_sisters 33 = .ok (.istore_n 3, 1) := by decide +kernel
theorem dX8_sisters_34 : decode cX8_sisters 34 = .ok (.bipush (-5), 2) := by decide +kernel
theorem dX8_sisters_36 : decode cX8_sisters 36 = .ok (.istore 4, 2) := by decide +kernel
theorem dX8_sisters_38 : decode cX8_sisters 38 = .ok (.aload_n 0, 1) := by decide +kernel
theorem dX8_sisters_39 : decode cX8_sisters 39 = .ok (.getfield 21, 3) := by decide +kernel
theorem dX8_sisters_42 : decode cX8_sisters 42 = .ok (.aload_n 0, 1) := by decide +kernel
theorem dX8_sisters_43 : decode cX8_sisters 43 = .ok (.getfield 14, 3) := by decide +kernel
theorem dX8_sisters_46 : decode cX8_sisters 46 = .ok (.invokevirtual 181, 3) := by decide +kernel
theorem dX8_sisters_49 : decode cX8_sisters 49 = .ok (.iconst 0, 1) := by decide +kernel
theorem dX8_sisters_50 : decode cX8_sisters 50 = .ok (.istore 5, 2) := by decide +kernel
theorem dX8_sisters_52 : decode cX8_sisters 52 = .ok (.iload 5, 2) := by decide +kernel
theorem dX8_sisters_54 : decode cX8_sisters 54 = .ok (.aload_n 0, 1) := by decide +kernel
theorem dX8_sisters_55 : decode cX8_sisters 55 = .ok (.getfield 21, 3) := by decide +kernel
theorem dX8_sisters_58 : decode cX8_sisters 58 = .ok (.getfield 195, 3) := by decide +kernel
theorem dX8_sisters_61 : decode cX8_sisters 61 = .ok (.if_icmp .ge 109, 3) := by decide +kernel
theorem dX8_sisters_64 : decode cX8_sisters 64 = .ok (.iload 5, 2) := by decide +kernel
theorem dX8_sisters_66 : decode cX8_sisters 66 = .ok (.iconst 1, 1) := by decide +kernel
theorem dX8_sisters_67 : decode cX8_sisters 67 = .ok (.iadd, 1) := by decide +kernel
theorem dX8_sisters_68 : decode cX8_sisters 68 = .ok (.istore 6, 2) := by decide +kernel
theorem dX8_sisters_70 : decode cX8_sisters 70 = .ok (.iload 6, 2) := by decide +kernel
theorem dX8_sisters_72 : decode cX8_sisters 72 = .ok (.aload_n 0, 1) := by decide +kernel
theorem dX8_sisters_73 : decode cX8_sisters 73 = .ok (.getfield 21, 3) := by decide +kernel
theorem dX8_sisters_76 : decode cX8_sisters 76 = .ok (.getfield 195, 3) := by decide +kernel
theorem dX8_sisters_79 : decode cX8_sisters 79 = .ok (.if_icmp .ge 85, 3) := by decide +kernel
theorem dX8_sisters_82 : decode cX8_sisters 82 = .ok (.aload_n 0, 1) := by decide +kernel
theorem dX8_sisters_83 : decode cX8_sisters 83 = .ok (.getfield 21, 3) := by decide +kernel
theorem dX8_sisters_86 : decode cX8_sisters 86 = .ok (.iload 5, 2) := by decide +kernel
theorem dX8_sisters_88 : decode cX8_sisters 88 = .ok (.iload 6, 2) := by decide +kernel
theorem dX8_sisters_90 : decode cX8_sisters 90 = .ok (.invokevirtual 137, 3) := by decide +kernel
theorem dX8_sisters_93 : decode cX8_sisters 93 = .ok (.ifCond .ne 6, 3) := by decide +kernel
theorem dX8_sisters_96 : decode cX8_sisters 96 = .ok (.goto 62, 3) := by decide +kernel
theorem dX8_sisters_99 : decode cX8_sisters 99 = .ok (.aload_n 0, 1) := by decide +kernel
theorem dX8_sisters_100 : decode cX8_sisters 100 = .ok (.getfield 21, 3) := by decide +kernel
theorem dX8_sisters_103 : decode cX8_sisters 103 = .ok (.iload 5, 2) := by decide +kernel
theorem dX8_sisters_105 : decode cX8_sisters 105 = .ok (.iload 6, 2) := by decide +kernel
theorem dX8_sisters_107 : decode cX8_sisters 107 = .ok (.invokevirtual 141, 3) := by decide +kernel
theorem dX8_sisters_110 : decode cX8_sisters 110 = .ok (.aload_n 0, 1) := by decide +kernel
theorem dX8_sisters_111 : decode cX8_sisters 111 = .ok (.getfield 27, 3) := by decide +kernel
theorem dX8_sisters_114 : decode cX8_sisters 114 = .ok (.aload_n 0, 1) := by decide +kernel
theorem dX8_sisters_115 : decode cX8_sisters 115 = .ok (.getfield 21, 3) := by decide +kernel
theorem dX8_sisters_118 : decode cX8_sisters 118 = .ok (.iload_n 1, 1) := by decide +kernel
theorem dX8_sisters_119 : decode cX8_sisters 119 = .ok (.iload_n 2, 1) := by decide +kernel
theorem dX8_sisters_120 : decode cX8_sisters 120 = .ok (.invokevirtual 185, 3) := by decide +kernel
theorem dX8_sisters_123 : decode cX8_sisters 123 = .ok (.invokestatic 192, 3) := by decide +kernel
theorem dX8_sisters_126 : decode cX8_sisters 126 = .ok (.istore 7, 2) := by decide +kernel
theorem dX8_sisters_128 : decode cX8_sisters 128 = .ok (.aload_n 0, 1) := by decide +kernel
theorem dX8_sisters_129 : decode cX8_sisters 129 = .ok (.getfield 21, 3) := by decide +kernel
theorem dX8_sisters_132 : decode cX8_sisters 132 = .ok (.iload 5, 2) := by decide +kernel
theorem dX8_sisters_134 : decode cX8_sisters 134 = .ok (.iload 6, 2) := by decide +kernel
theorem dX8_sisters_136 : decode cX8_sisters 136 = .ok (.invokevirtual 141, 3) := by decide +kernel
theorem dX8_sisters_139 : decode cX8_sisters 139 = .ok (.iload 7, 2) := by decide +kernel
theorem dX8_sisters_141 : decode cX8_sisters 141 = .ok (.iload_n 3, 1) := by decide +kernel
theorem dX8_sisters_142 : decode cX8_sisters 142 = .ok (.if_icmp .ge 16, 3) := by decide +kernel
theorem dX8_sisters_145 : decode cX8_sisters 145 = .ok (.iload 7, 2) := by decide +kernel
theorem dX8_sisters_147 : decode cX8_sisters 147 = .ok (.istore_n 3, 1) := by decide +kernel
theorem dX8_sisters_148 : decode cX8_sisters 148 = .ok (.bipush 10, 2) := by decide +kernel
theorem dX8_sisters_150 : decode cX8_sisters 150 = .ok (.iload 5, 2) := by decide +kernel
theorem dX8_sisters_152 : decode cX8_sisters 152 = .ok (.imul, 1) := by decide +kernel
theorem dX8_sisters_153 : decode cX8_sisters 153 = .ok (.iload 6, 2) := by decide +kernel
theorem dX8_sisters_155 : decode cX8_sisters 155 = .ok (.iadd, 1) := by decide +kernel
theorem dX8_sisters_156 : decode cX8_sisters 156 = .ok (.istore 4, 2) := by decide +kernel
theorem dX8_sisters_158 : decode cX8_sisters 158 = .ok (.iinc 6 1, 3) := by decide +kernel
theorem dX8_sisters_161 : decode cX8_sisters 161 = .ok (.goto (-91), 3) := by decide +kernel
theorem dX8_sisters_164 : decode cX8_sisters 164 = .ok (.iinc 5 1, 3) := by decide +kernel
theorem dX8_sisters_167 : decode cX8_sisters 167 = .ok (.goto (-115), 3) := by decide +kernel
theorem dX8_sisters_170 : decode cX8_sisters 170 = .ok (.iload 4, 2) := by decide +kernel
theorem dX8_sisters_172 : decode cX8_sisters 172 = .ok (.ireturn, 1) := by decide +kernel
theorem dX8_see_0 : decode cX8_see 0 = .ok (.iload_n 1, 1) := by decide +kernel
theorem dX8_see_1 : decode cX8_see 1 = .ok (.iconst (-1), 1) := by decide +kernel
theorem dX8_see_2 : decode cX8_see 2 = .ok (.if_icmp .ne 14, 3) := by decide +kernel
theorem dX8_see_5 : decode cX8_see 5 = .ok (.aload_n 0, 1) := by decide +kernel
theorem dX8_see_6 : decode cX8_see 6 = .ok (.getfield 14, 3) := by decide +kernel
theorem dX8_see_9 : decode cX8_see 9 = .ok (.getfield 198, 3) := by decide +kernel
theorem dX8_see_12 : decode cX8_see 12 = .ok (.invokevirtual 202, 3) := by decide +kernel
theorem dX8_see_15 : decode cX8_see 15 = .ok (.ireturn, 1) := by decide +kernel
theorem dX8_see_16 : decode cX8_see 16 = .ok (.aload_n 0, 1) := by decide +kernel
theorem dX8_see_17 : decode cX8_see 17 = .ok (.iload_n 1, 1) := by decide +kernel
theorem dX8_see_18 : decode cX8_see 18 = .ok (.invokevirtual 71, 3) := by decide +kernel
theorem dX8_see_21 : decode cX8_see 21 = .ok (.ifCond .eq 10, 3) := by decide +kernel
theorem dX8_see_24 : decode cX8_see 24 = .ok (.iload_n 3, 1) := by decide +kernel
theorem dX8_see_25 : decode cX8_see 25 = .ok (.invokestatic 59, 3) := by decide +kernel
theorem dX8_see_28 : decode cX8_see 28 = .ok (.ifCond .ne 5, 3) := by decide +kernel
theorem dX8_see_31 : decode cX8_see 31 = .ok (.iconst (-1), 1) := by decide +kernel
theorem dX8_see_32 : decode cX8_see 32 = .ok (.ireturn, 1) := by decide +kernel
theorem dX8_see_33 : decode cX8_see 33 = .ok (.iload_n 2, 1) := by decide +kernel
theorem dX8_see_34 : decode cX8_see 34 = .ok (.ifCond .lt 9, 3) := by decide +kernel
theorem dX8_see_37 : decode cX8_see 37 = .ok (.iload_n 2, 1) := by decide +kernel
theorem dX8_see_38 : decode cX8_see 38 = .ok (.bipush 8, 2) := by decide +kernel
theorem dX8_see_40 : decode cX8_see 40 = .ok (.if_icmp .le 6, 3) := by decide +kernel
theorem dX8_see_43 : decode cX8_see 43 = .ok (.bipush (-2), 2) := by decide +kernel
theorem dX8_see_45 : decode cX8_see 45 = .ok (.ireturn, 1) := by decide +kernel
theorem dX8_see_46 : decode cX8_see 46 = .ok (.aload_n 0, 1) := by decide +kernel
theorem dX8_see_47 : decode cX8_see 47 = .ok (.getfield 14, 3) := by decide +kernel
theorem dX8_see_50 : decode cX8_see 50 = .ok (.getfield 198, 3) := by decide +kernel
theorem dX8_see_53 : decode cX8_see 53 = .ok (.iload_n 1, 1) := by decide +kernel
theorem dX8_see_54 : decode cX8_see 54 = .ok (.iload_n 3, 1) := by decide +kernel
theorem dX8_see_55 : decode cX8_see 55 = .ok (.iload_n 2, 1) := by decide +kernel
theorem dX8_see_56 : decode cX8_see 56 = .ok (.invokevirtual 207, 3) := by decide +kernel
theorem dX8_see_59 : decode cX8_see 59 = .ok (.ireturn, 1) := by decide +kernel
theorem dX8_from_0 : decode cX8_from 0 = .ok (.aload_n 0, 1) := by decide +kernel
theorem dX8_from_1 : decode cX8_from 1 = .ok (.iload_n 1, 1) := by decide +kernel
theorem dX8_from_2 : decode cX8_from 2 = .ok (.invokevirtual 71, 3) := by decide +kernel
theorem dX8_from_5 : decode cX8_from 5 = .ok (.ifCond .ne 5, 3) := by decide +kernel
theorem dX8_from_8 : decode cX8_from 8 = .ok (.iconst (-1), 1) := by decide +kernel
theorem dX8_from_9 : decode cX8_from 9 = .ok (.ireturn, 1) := by decide +kernel
theorem dX8_from_10 : decode cX8_from 10 = .ok (.iconst 0, 1) := by decide +kernel
theorem dX8_from_11 : decode cX8_from 11 = .ok (.istore_n 2, 1) := by decide +kernel
theorem dX8_from_12 : decode cX8_from 12 = .ok (.iconst 0, 1) := by decide +kernel
theorem dX8_from_13 : decode cX8_from 13 = .ok (.istore_n 3, 1) := by decide +kernel
theorem dX8_from_14 : decode cX8_from 14 = .ok (.iload_n 3, 1) := by decide +kernel
theorem dX8_from_15 : decode cX8_from 15 = .ok (.bipush 6, 2) := by decide +kernel
theorem dX8_from_17 : decode cX8_from 17 = .ok (.if_icmp .ge 47, 3) := by decide +kernel
theorem dX8_from_20 : decode cX8_from 20 = .ok (.aload_n 0, 1) := by decide +kernel
theorem dX8_from_21 : decode cX8_from 21 = .ok (.getfield 21, 3) := by decide +kernel
theorem dX8_from_24 : decode cX8_from 24 = .ok (.aload_n 0, 1) := by decide +kernel
theorem dX8_from_25 : decode cX8_from 25 = .ok (.getfield 14, 3) := by decide +kernel
theorem dX8_from_28 : decode cX8_from 28 = .ok (.invokevirtual 181, 3) := by decide +kernel
theorem dX8_from_31 : decode cX8_from 31 = .ok (.aload_n 0, 1) := by decide +kernel
theorem dX8_from_32 : decode cX8_from 32 = .ok (.getfield 21, 3) := by decide +kernel
theorem dX8_from_35 : decode cX8_from 35 = .ok (.getfield 74, 3) := by decide +kernel
theorem dX8_from_38 : decode cX8_from 38 = .ok (.iload_n 1, 1) := by decide +kernel
theorem dX8_from_39 : decode cX8_from 39 = .ok (.aaload, 1) := by decide +kernel
theorem dX8_from_40 : decode cX8_from 40 = .ok (.iload_n 3, 1) := by decide +kernel
theorem dX8_from_41 : decode cX8_from 41 = .ok (.putfield 87, 3) := by decide +kernel
theorem dX8_from_44 : decode cX8_from 44 = .ok (.aload_n 0, 1) := by decide +kernel
theorem dX8_from_45 : decode cX8_from 45 = .ok (.iload_n 1, 1) := by decide +kernel
theorem dX8_from_46 : decode cX8_from 46 = .ok (.invokevirtual 210, 3) := by decide +kernel
theorem dX8_from_49 : decode cX8_from 49 = .ok (.ifCond .eq 9, 3) := by decide +kernel
theorem dX8_from_52 : decode cX8_from 52 = .ok (.iload_n 2, 1) := by decide +kernel
theorem dX8_from_53 : decode cX8_from 53 = .ok (.iconst 1, 1) := by decide +kernel
theorem dX8_from_54 : decode cX8_from 54 = .ok (.iload_n 3, 1) := by decide +kernel
theorem dX8_from_55 : decode cX8_from 55 = .ok (.ishl, 1) := by decide +kernel
theorem dX8_from_56 : decode cX8_from 56 = .ok (.ior, 1) := by decide +kernel
theorem dX8_from_57 : decode cX8_from 57 = .ok (.istore_n 2, 1) := by decide +kernel
theorem dX8_from_58 : decode cX8_from 58 = .ok (.iinc 3 1, 3) := by decide +kernel
theorem dX8_from_61 : decode cX8_from 61 = .ok (.goto (-47), 3) := by decide +kernel
theorem dX8_from_64 : decode cX8_from 64 = .ok (.iload_n 2, 1) := by decide +kernel
theorem dX8_from_65 : decode cX8_from 65 = .ok (.ireturn, 1) := by decide +kernel
theorem dX8_can_0 : decode cX8_can 0 = .ok (.aload_n 0, 1) := by decide +kernel
theorem dX8_can_1 : decode cX8_can 1 = .ok (.iload_n 1, 1) := by decide +kernel
theorem dX8_can_2 : decode cX8_can 2 = .ok (.invokevirtual 71, 3) := by decide +kernel
theorem dX8_can_5 : decode cX8_can 5 = .ok (.ifCond .eq 12, 3) := by decide +kernel
theorem dX8_can_8 : decode cX8_can 8 = .ok (.iload_n 2, 1) := by decide +kernel
theorem dX8_can_9 : decode cX8_can 9 = .ok (.ifCond .lt 8, 3) := by decide +kernel
theorem dX8_can_12 : decode cX8_can 12 = .ok (.iload_n 2, 1) := by decide +kernel
theorem dX8_can_13 : decode cX8_can 13 = .ok (.iconst 1, 1) := by decide +kernel
theorem dX8_can_14 : decode cX8_can 14 = .ok (.if_icmp .le 5, 3) := by decide +kernel
theorem dX8_can_17 : decode cX8_can 17 = .ok (.iconst (-1), 1) := by decide +kernel
theorem dX8_can_18 : decode cX8_can 18 = .ok (.ireturn, 1) := by decide +kernel
theorem dX8_can_19 : decode cX8_can 19 = .ok (.iconst 0, 1) := by decide +kernel
theorem dX8_can_20 : decode cX8_can 20 = .ok (.istore_n 3, 1) := by decide +kernel
theorem dX8_can_21 : decode cX8_can 21 = .ok (.bipush (-5), 2) := by decide +kernel
theorem dX8_can_23 : decode cX8_can 23 = .ok (.istore 4, 2) := by decide +kernel
theorem dX8_can_25 : decode cX8_can 25 = .ok (.bipush 9, 2) := by decide +kernel
theorem dX8_can_27 : decode cX8_can 27 = .ok (.istore 5, 2) := by decide +kernel
theorem dX8_can_29 : decode cX8_can 29 = .ok (.iload 5, 2) := by decide +kernel
theorem dX8_can_31 : decode cX8_can 31 = .ok (.ifCond .lt 49, 3) := by decide +kernel
theorem dX8_can_34 : decode cX8_can 34 = .ok (.aload_n 0, 1) := by decide +kernel
theorem dX8_can_35 : decode cX8_can 35 = .ok (.getfield 21, 3) := by decide +kernel
theorem dX8_can_38 : decode cX8_can 38 = .ok (.aload_n 0, 1) := by decide +kernel
theorem dX8_can_39 : decode cX8_can 39 = .ok (.getfield 14, 3) := by decide +kernel
theorem dX8_can_42 : decode cX8_can 42 = .ok (.invokevirtual 181, 3) := by decide +kernel
theorem dX8_can_45 : decode cX8_can 45 = .ok (.aload_n 0, 1) := by decide +kernel
theorem dX8_can_46 : decode cX8_can 46 = .ok (.getfield 21, 3) := by decide +kernel
theorem dX8_can_49 : decode cX8_can 49 = .ok (.getfield 74, 3) := by decide +kernel
theorem dX8_can_52 : decode cX8_can 52 = .ok (.iload_n 1, 1) := by decide +kernel
theorem dX8_can_53 : decode cX8_can 53 = .ok (.aaload, 1) := by decide +kernel
theorem dX8_can_54 : decode cX8_can 54 = .ok (.iload 5, 2) := by decide +kernel
theorem dX8_can_56 : decode cX8_can 56 = .ok (.putfield 84, 3) := by decide +kernel
theorem dX8_can_59 : decode cX8_can 59 = .ok (.aload_n 0, 1) := by decide +kernel
theorem dX8_can_60 : decode cX8_can 60 = .ok (.iload_n 1, 1) := by decide +kernel
theorem dX8_can_61 : decode cX8_can 61 = .ok (.invokevirtual 210, 3) := by decide +kernel
theorem dX8_can_64 : decode cX8_can 64 = .ok (.ifCond .eq 10, 3) := by decide +kernel
theorem dX8_can_67 : decode cX8_can 67 = .ok (.iinc 3 1, 3) := by decide +kernel
theorem dX8_can_70 : decode cX8_can 70 = .ok (.iload 5, 2) := by decide +kernel
theorem dX8_can_72 : decode cX8_can 72 = .ok (.istore 4, 2) := by decide +kernel
theorem dX8_can_74 : decode cX8_can 74 = .ok (.iinc 5 (-1), 3) := by decide +kernel
theorem dX8_can_77 : decode cX8_can 77 = .ok (.goto (-48), 3) := by decide +kernel
theorem dX8_can_80 : decode cX8_can 80 = .ok (.iload_n 2, 1) := by decide +kernel
theorem dX8_can_81 : decode cX8_can 81 = .ok (.ifCond .ne 7, 3) := by decide +kernel
theorem dX8_can_84 : decode cX8_can 84 = .ok (.iload_n 3, 1) := by decide +kernel
theorem dX8_can_85 : decode cX8_can 85 = .ok (.goto 5, 3) := by decide +kernel
theorem dX8_can_88 : decode cX8_can 88 = .ok (.iload 4, 2) := by decide +kernel
theorem dX8_can_90 : decode cX8_can 90 = .ok (.ireturn, 1) := by decide +kernel
theorem dX8_odds_0 : decode cX8_odds 0 = .ok (.aload_n 0, 1) := by decide +kernel
theorem dX8_odds_1 : decode cX8_odds 1 = .ok (.iload_n 1, 1) := by decide +kernel
theorem dX8_odds_2 : decode cX8_odds 2 = .ok (.invokevirtual 71, 3) := by decide +kernel
theorem dX8_odds_5 : decode cX8_odds 5 = .ok (.ifCond .eq 27, 3) := by decide +kernel
theorem dX8_odds_8 : decode cX8_odds 8 = .ok (.iload_n 2, 1) := by decide +kernel
theorem dX8_odds_9 : decode cX8_odds 9 = .ok (.invokestatic 59, 3) := by decide +kernel
theorem dX8_odds_12 : decode cX8_odds 12 = .ok (.ifCond .eq 20, 3) := by decide +kernel
theorem dX8_odds_15 : decode cX8_odds 15 = .ok (.iload_n 3, 1) := by decide +kernel
theorem dX8_odds_16 : decode cX8_odds 16 = .ok (.invokestatic 213, 3) := by decide +kernel
theorem dX8_odds_19 : decode cX8_odds 19 = .ok (.ifCond .eq 13, 3) := by decide +kernel
theorem dX8_odds_22 : decode cX8_odds 22 = .ok (.aload_n 0, 1) := by decide +kernel
theorem dX8_odds_23 : decode cX8_odds 23 = .ok (.getfield 14, 3) := by decide +kernel
theorem dX8_odds_26 : decode cX8_odds 26 = .ok (.getfield 195, 3) := by decide +kernel
theorem dX8_odds_29 : decode cX8_odds 29 = .ok (.ifCond .ne 7, 3) := by decide +kernel
theorem dX8_odds_32 : decode cX8_odds 32 = .ok (.ldc2_w 216, 3) := by decide +kernel
theorem dX8_odds_35 : decode cX8_odds 35 = .ok (.lreturn, 1) := by decide +kernel
theorem dX8_odds_36 : decode cX8_odds 36 = .ok (.iconst 0, 1) := by decide +kernel
theorem dX8_odds_37 : decode cX8_odds 37 = .ok (.istore 4, 2) := by decide +kernel
theorem dX8_odds_39 : decode cX8_odds 39 = .ok (.aload_n 0, 1) := by decide +kernel
theorem dX8_odds_40 : decode cX8_odds 40 = .ok (.getfield 21, 3) := by decide +kernel
theorem dX8_odds_43 : decode cX8_odds 43 = .ok (.aload_n 0, 1) := by decide +kernel
theorem dX8_odds_44 : decode cX8_odds 44 = .ok (.getfield 14, 3) := by decide +kernel
theorem dX8_odds_47 : decode cX8_odds 47 = .ok (.invokevirtual 181, 3) := by decide +kernel
theorem dX8_odds_50 : decode cX8_odds 50 = .ok (.iconst 0, 1) := by decide +kernel
theorem dX8_odds_51 : decode cX8_odds 51 = .ok (.istore 5, 2) := by decide +kernel
theorem dX8_odds_53 : decode cX8_odds 53 = .ok (.iload 5, 2) := by decide +kernel
theorem dX8_odds_55 : decode cX8_odds 55 = .ok (.aload_n 0, 1) := by decide +kernel
theorem dX8_odds_56 : decode cX8_odds 56 = .ok (.getfield 14, 3) := by decide +kernel
theorem dX8_odds_59 : decode cX8_odds 59 = .ok (.getfield 195, 3) := by decide +kernel
theorem dX8_odds_62 : decode cX8_odds 62 = .ok (.if_icmp .ge 47, 3) := by decide +kernel
theorem dX8_odds_65 : decode cX8_odds 65 = .ok (.aload_n 0, 1) := by decide +kernel
theorem dX8_odds_66 : decode cX8_odds 66 = .ok (.getfield 21, 3) := by decide +kernel
theorem dX8_odds_69 : decode cX8_odds 69 = .ok (.aload_n 0, 1) := by decide +kernel
theorem dX8_odds_70 : decode cX8_odds 70 = .ok (.getfield 14, 3) := by decide +kernel
theorem dX8_odds_73 : decode cX8_odds 73 = .ok (.getfield 126, 3) := by decide +kernel
theorem dX8_odds_76 : decode cX8_odds 76 = .ok (.iconst 1, 1) := by decide +kernel
theorem dX8_odds_77 : decode cX8_odds 77 = .ok (.iload 5, 2) := by decide +kernel
theorem dX8_odds_79 : decode cX8_odds 79 = .ok (.ishl, 1) := by decide +kernel
theorem dX8_odds_80 : decode cX8_odds 80 = .ok (.ior, 1) := by decide +kernel
theorem dX8_odds_81 : decode cX8_odds 81 = .ok (.putfield 126, 3) := by decide +kernel
theorem dX8_odds_84 : decode cX8_odds 84 = .ok (.aload_n 0, 1) := by decide +kernel
theorem dX8_odds_85 : decode cX8_odds 85 = .ok (.getfield 27, 3) := by decide +kernel
theorem dX8_odds_88 : decode cX8_odds 88 = .ok (.aload_n 0, 1) := by decide +kernel
theorem dX8_odds_89 : decode cX8_odds 89 = .ok (.getfield 21, 3) := by decide +kernel
theorem dX8_odds_92 : decode cX8_odds 92 = .ok (.iload_n 1, 1) := by decide +kernel
theorem dX8_odds_93 : decode cX8_odds 93 = .ok (.iload_n 2, 1) := by decide +kernel
theorem dX8_odds_94 : decode cX8_odds 94 = .ok (.invokevirtual 185, 3) := by decide +kernel
theorem dX8_odds_97 : decode cX8_odds 97 = .ok (.ifCond .lt 6, 3) := by decide +kernel
theorem dX8_odds_100 : decode cX8_odds 100 = .ok (.iinc 4 1, 3) := by decide +kernel
theorem dX8_odds_103 : decode cX8_odds 103 = .ok (.iinc 5 1, 3) := by decide +kernel
theorem dX8_odds_106 : decode cX8_odds 106 = .ok (.goto (-53), 3) := by decide +kernel
theorem dX8_odds_109 : decode cX8_odds 109 = .ok (.iload 4, 2) := by decide +kernel
theorem dX8_odds_111 : decode cX8_odds 111 = .ok (.aload_n 0, 1) := by decide +kernel
theorem dX8_odds_112 : decode cX8_odds 112 = .ok (.getfield 14, 3) := by decide +kernel
theorem dX8_odds_115 : decode cX8_odds 115 = .ok (.getfield 195, 3) := by decide +kernel
theorem dX8_odds_118 : decode cX8_odds 118 = .ok (.iload_n 3, 1) := by decide +kernel
theorem dX8_odds_119 : decode cX8_odds 119 = .ok (.invokestatic 218, 3) := by decide +kernel
theorem dX8_odds_122 : decode cX8_odds 122 = .ok (.lreturn, 1) := by decide +kernel
theorem dX8_mean_0 : decode cX8_mean 0 = .ok (.iload_n 1, 1) := by decide +kernel
theorem dX8_mean_1 : decode cX8_mean 1 = .ok (.invokestatic 213, 3) := by decide +kernel
theorem dX8_mean_4 : decode cX8_mean 4 = .ok (.ifCond .eq 13, 3) := by decide +kernel
theorem dX8_mean_7 : decode cX8_mean 7 = .ok (.aload_n 0, 1) := by decide +kernel
theorem dX8_mean_8 : decode cX8_mean 8 = .ok (.getfield 14, 3) := by decide +kernel
theorem dX8_mean_11 : decode cX8_mean 11 = .ok (.getfield 222, 3) := by decide +kernel
theorem dX8_mean_14 : decode cX8_mean 14 = .ok (.ifCond .ne 7, 3) := by decide +kernel
theorem dX8_mean_17 : decode cX8_mean 17 = .ok (.ldc2_w 216, 3) := by decide +kernel
theorem dX8_mean_20 : decode cX8_mean 20 = .ok (.lreturn, 1) := by decide +kernel
theorem dX8_mean_21 : decode cX8_mean 21 = .ok (.aload_n 0, 1) := by decide +kernel
theorem dX8_mean_22 : decode cX8_mean 22 = .ok (.getfield 14, 3) := by decide +kernel
theorem dX8_mean_25 : decode cX8_mean 25 = .ok (.invokevirtual 174, 3) := by decide +kernel
theorem dX8_mean_28 : decode cX8_mean 28 = .ok (.aload_n 0, 1) := by decide +kernel
theorem dX8_mean_29 : decode cX8_mean 29 = .ok (.getfield 14, 3) := by decide +kernel
theorem dX8_mean_32 : decode cX8_mean 32 = .ok (.getfield 222, 3) := by decide +kernel
theorem dX8_mean_35 : decode cX8_mean 35 = .ok (.iload_n 1, 1) := by decide +kernel
theorem dX8_mean_36 : decode cX8_mean 36 = .ok (.invokestatic 218, 3) := by decide +kernel
theorem dX8_mean_39 : decode cX8_mean 39 = .ok (.lreturn, 1) := by decide +kernel
theorem dX8_plan_0 : decode cX8_plan 0 = .ok (.iload_n 1, 1) := by decide +kernel
theorem dX8_plan_1 : decode cX8_plan 1 = .ok (.iconst (-1), 1) := by decide +kernel
theorem dX8_plan_2 : decode cX8_plan 2 = .ok (.if_icmp .ne 14, 3) := by decide +kernel
theorem dX8_plan_5 : decode cX8_plan 5 = .ok (.aload_n 0, 1) := by decide +kernel
theorem dX8_plan_6 : decode cX8_plan 6 = .ok (.getfield 14, 3) := by decide +kernel
theorem dX8_plan_9 : decode cX8_plan 9 = .ok (.getfield 225, 3) := by decide +kernel
theorem dX8_plan_12 : decode cX8_plan 12 = .ok (.invokevirtual 202, 3) := by decide +kernel
theorem dX8_plan_15 : decode cX8_plan 15 = .ok (.ireturn, 1) := by decide +kernel
theorem dX8_plan_16 : decode cX8_plan 16 = .ok (.iload_n 1, 1) := by decide +kernel
theorem dX8_plan_17 : decode cX8_plan 17 = .ok (.tableswitch 54 0 3 #[31, 36, 36, 45], 31) := by decide +kernel
theorem dX8_plan_48 : decode cX8_plan 48 = .ok (.iconst 1, 1) := by decide +kernel
theorem dX8_plan_49 : decode cX8_plan 49 = .ok (.istore_n 3, 1) := by decide +kernel
theorem dX8_plan_50 : decode cX8_plan 50 = .ok (.goto 23, 3) := by decide +kernel
theorem dX8_plan_53 : decode cX8_plan 53 = .ok (.aload_n 0, 1) := by decide +kernel
theorem dX8_plan_54 : decode cX8_plan 54 = .ok (.iload_n 2, 1) := by decide +kernel
theorem dX8_plan_55 : decode cX8_plan 55 = .ok (.invokevirtual 113, 3) := by decide +kernel
theorem dX8_plan_58 : decode cX8_plan 58 = .ok (.istore_n 3, 1) := by decide +kernel
theorem dX8_plan_59 : decode cX8_plan 59 = .ok (.goto 14, 3) := by decide +kernel
theorem dX8_plan_62 : decode cX8_plan 62 = .ok (.aload_n 0, 1) := by decide +kernel
theorem dX8_plan_63 : decode cX8_plan 63 = .ok (.iload_n 2, 1) := by decide +kernel
theorem dX8_plan_64 : decode cX8_plan 64 = .ok (.invokevirtual 71, 3) := by decide +kernel
theorem dX8_plan_67 : decode cX8_plan 67 = .ok (.istore_n 3, 1) := by decide +kernel
theorem dX8_plan_68 : decode cX8_plan 68 = .ok (.goto 5, 3) := by decide +kernel
theorem dX8_plan_71 : decode cX8_plan 71 = .ok (.iconst 0, 1) := by decide +kernel
theorem dX8_plan_72 : decode cX8_plan 72 = .ok (.istore_n 3, 1) := by decide +kernel
theorem dX8_plan_73 : decode cX8_plan 73 = .ok (.iload_n 3, 1) := by decide +kernel
theorem dX8_plan_74 : decode cX8_plan 74 = .ok (.ifCond .eq 19, 3) := by decide +kernel
theorem dX8_plan_77 : decode cX8_plan 77 = .ok (.aload_n 0, 1) := by decide +kernel
theorem dX8_plan_78 : decode cX8_plan 78 = .ok (.getfield 14, 3) := by decide +kernel
theorem dX8_plan_81 : decode cX8_plan 81 = .ok (.getfield 225, 3) := by decide +kernel
theorem dX8_plan_84 : decode cX8_plan 84 = .ok (.iload_n 2, 1) := by decide +kernel
theorem dX8_plan_85 : decode cX8_plan 85 = .ok (.iload_n 1, 1) := by decide +kernel
theorem dX8_plan_86 : decode cX8_plan 86 = .ok (.iconst 0, 1) := by decide +kernel
theorem dX8_plan_87 : decode cX8_plan 87 = .ok (.invokevirtual 207, 3) := by decide +kernel
theorem dX8_plan_90 : decode cX8_plan 90 = .ok (.goto 4, 3) := by decide +kernel
theorem dX8_plan_93 : decode cX8_plan 93 = .ok (.iconst (-1), 1) := by decide +kernel
theorem dX8_plan_94 : decode cX8_plan 94 = .ok (.ireturn, 1) := by decide +kernel
theorem dX8_ends_0 : decode cX8_ends 0 = .ok (.iload_n 1, 1) := by decide +kernel
theorem dX8_ends_1 : decode cX8_ends 1 = .ok (.ifCond .lt 8, 3) := by decide +kernel
theorem dX8_ends_4 : decode cX8_ends 4 = .ok (.iload_n 1, 1) := by decide +kernel
theorem dX8_ends_5 : decode cX8_ends 5 = .ok (.iconst 1, 1) := by decide +kernel
theorem dX8_ends_6 : decode cX8_ends 6 = .ok (.if_icmp .le 5, 3) := by decide +kernel
theorem dX8_ends_9 : decode cX8_ends 9 = .ok (.iconst (-1), 1) := by decide +kernel
theorem dX8_ends_10 : decode cX8_ends 10 = .ok (.ireturn, 1) := by decide +kernel
theorem dX8_ends_11 : decode cX8_ends 11 = .ok (.aload_n 0, 1) := by decide +kernel
theorem dX8_ends_12 : decode cX8_ends 12 = .ok (.getfield 21, 3) := by decide +kernel
theorem dX8_ends_15 : decode cX8_ends 15 = .ok (.aload_n 0, 1) := by decide +kernel
theorem dX8_ends_16 : decode cX8_ends 16 = .ok (.getfield 14, 3) := by decide +kernel
theorem dX8_ends_19 : decode cX8_ends 19 = .ok (.invokevirtual 181, 3) := by decide +kernel
theorem dX8_ends_22 : decode cX8_ends 22 = .ok (.iconst 0, 1) := by decide +kernel
theorem dX8_ends_23 : decode cX8_ends 23 = .ok (.istore_n 2, 1) := by decide +kernel
theorem dX8_ends_24 : decode cX8_ends 24 = .ok (.iload_n 2, 1) := by decide +kernel
theorem dX8_ends_25 : decode cX8_ends 25 = .ok (.aload_n 0, 1) := by decide +kernel
theorem dX8_ends_26 : decode cX8_ends 26 = .ok (.getfield 14, 3) := by decide +kernel
theorem dX8_ends_29 : decode cX8_ends 29 = .ok (.getfield 225, 3) := by decide +kernel
theorem dX8_ends_32 : decode cX8_ends 32 = .ok (.getfield 228, 3) := by decide +kernel
theorem dX8_ends_35 : decode cX8_ends 35 = .ok (.if_icmp .ge 110, 3) := by decide +kernel
theorem dX8_ends_38 : decode cX8_ends 38 = .ok (.aload_n 0, 1) := by decide +kernel
theorem dX8_ends_39 : decode cX8_ends 39 = .ok (.getfield 14, 3) := by decide +kernel
theorem dX8_ends_42 : decode cX8_ends 42 = .ok (.getfield 225, 3) := by decide +kernel
theorem dX8_ends_45 : decode cX8_ends 45 = .ok (.getfield 231, 3) := by decide +kernel
theorem dX8_ends_48 : decode cX8_ends 48 = .ok (.iload_n 2, 1) := by decide +kernel
theorem dX8_ends_49 : decode cX8_ends 49 = .ok (.iaload, 1) := by decide +kernel
theorem dX8_ends_50 : decode cX8_ends 50 = .ok (.istore_n 3, 1) := by decide +kernel
theorem dX8_ends_51 : decode cX8_ends 51 = .ok (.aload_n 0, 1) := by decide +kernel
theorem dX8_ends_52 : decode cX8_ends 52 = .ok (.getfield 14, 3) := by decide +kernel
theorem dX8_ends_55 : decode cX8_ends 55 = .ok (.getfield 225, 3) := by decide +kernel
theorem dX8_ends_58 : decode cX8_ends 58 = .ok (.getfield 234, 3) := by decide +kernel
theorem dX8_ends_61 : decode cX8_ends 61 = .ok (.iload_n 2, 1) := by decide +kernel
theorem dX8_ends_62 : decode cX8_ends 62 = .ok (.iaload, 1) := by decide +kernel
theorem dX8_ends_63 : decode cX8_ends 63 = .ok (.tableswitch 62 0 2 #[25, 38, 50], 25) := by decide +kernel
theorem dX8_ends_88 : decode cX8_ends 88 = .ok (.aload_n 0, 1) := by decide +kernel
theorem dX8_ends_89 : decode cX8_ends 89 = .ok (.aload_n 0, 1) := by decide +kernel
theorem dX8_ends_90 : decode cX8_ends 90 = .ok (.getfield 21, 3) := by decide +kernel
theorem dX8_ends_93 : decode cX8_ends 93 = .ok (.iconst 1, 1) := by decide +kernel
theorem dX8_ends_94 : decode cX8_ends 94 = .ok (.iconst (-1), 1) := by decide +kernel
theorem dX8_ends_95 : decode cX8_ends 95 = .ok (.invokevirtual 177, 3) := by decide +kernel
theorem dX8_ends_98 : decode cX8_ends 98 = .ok (.goto 41, 3) := by decide +kernel
theorem dX8_ends_101 : decode cX8_ends 101 = .ok (.aload_n 0, 1) := by decide +kernel
theorem dX8_ends_102 : decode cX8_ends 102 = .ok (.getfield 21, 3) := by decide +kernel
theorem dX8_ends_105 : decode cX8_ends 105 = .ok (.iload_n 3, 1) := by decide +kernel
theorem dX8_ends_106 : decode cX8_ends 106 = .ok (.iconst 1, 1) := by decide +kernel
theorem dX8_ends_107 : decode cX8_ends 107 = .ok (.invokevirtual 133, 3) := by decide +kernel
theorem dX8_ends_110 : decode cX8_ends 110 = .ok (.goto 29, 3) := by decide +kernel
theorem dX8_ends_113 : decode cX8_ends 113 = .ok (.aload_n 0, 1) := by decide +kernel
theorem dX8_ends_114 : decode cX8_ends 114 = .ok (.getfield 21, 3) := by decide +kernel
theorem dX8_ends_117 : decode cX8_ends 117 = .ok (.iload_n 3, 1) := by decide +kernel
theorem dX8_ends_118 : decode cX8_ends 118 = .ok (.iconst 0, 1) := by decide +kernel
theorem dX8_ends_119 : decode cX8_ends 119 = .ok (.invokevirtual 133, 3) := by decide +kernel
theorem dX8_ends_122 : decode cX8_ends 122 = .ok (.goto 17, 3) := by decide +kernel
theorem dX8_ends_125 : decode cX8_ends 125 = .ok (.aload_n 0, 1) := by decide +kernel
theorem dX8_ends_126 : decode cX8_ends 126 = .ok (.getfield 21, 3) := by decide +kernel
theorem dX8_ends_129 : decode cX8_ends 129 = .ok (.getfield 74, 3) := by decide +kernel
theorem dX8_ends_132 : decode cX8_ends 132 = .ok (.iload_n 3, 1) := by decide +kernel
theorem dX8_ends_133 : decode cX8_ends 133 = .ok (.aaload, 1) := by decide +kernel
theorem dX8_ends_134 : decode cX8_ends 134 = .ok (.bipush (-5), 2) := by decide +kernel
theorem dX8_ends_136 : decode cX8_ends 136 = .ok (.putfield 93, 3) := by decide +kernel
theorem dX8_ends_139 : decode cX8_ends 139 = .ok (.iinc 2 1, 3) := by decide +kernel
theorem dX8_ends_142 : decode cX8_ends 142 = .ok (.goto (-118), 3) := by decide +kernel
theorem dX8_ends_145 : decode cX8_ends 145 = .ok (.iload_n 1, 1) := by decide +kernel
theorem dX8_ends_146 : decode cX8_ends 146 = .ok (.ifCond .ne 13, 3) := by decide +kernel
theorem dX8_ends_149 : decode cX8_ends 149 = .ok (.aload_n 0, 1) := by decide +kernel
theorem dX8_ends_150 : decode cX8_ends 150 = .ok (.getfield 21, 3) := by decide +kernel
theorem dX8_ends_153 : decode cX8_ends 153 = .ok (.invokevirtual 171, 3) := by decide +kernel
theorem dX8_ends_156 : decode cX8_ends 156 = .ok (.goto 10, 3) := by decide +kernel
theorem dX8_ends_159 : decode cX8_ends 159 = .ok (.aload_n 0, 1) := by decide +kernel
theorem dX8_ends_160 : decode cX8_ends 160 = .ok (.getfield 21, 3) := by decide +kernel
theorem dX8_ends_163 : decode cX8_ends 163 = .ok (.invokevirtual 174, 3) := by decide +kernel
theorem dX8_ends_166 : decode cX8_ends 166 = .ok (.ireturn, 1) := by decide +kernel
theorem dX8_book_0 : decode cX8_book 0 = .ok (.iload_n 1, 1) := by decide +kernel
theorem dX8_book_1 : decode cX8_book 1 = .ok (.iconst (-1), 1) := by decide +kernel
theorem dX8_book_2 : decode cX8_book 2 = .ok (.if_icmp .ne 14, 3) := by decide +kernel
theorem dX8_book_5 : decode cX8_book 5 = .ok (.aload_n 0, 1) := by decide +kernel
theorem dX8_book_6 : decode cX8_book 6 = .ok (.getfield 14, 3) := by decide +kernel
theorem dX8_book_9 : decode cX8_book 9 = .ok (.getfield 237, 3) := by decide +kernel
theorem dX8_book_12 : decode cX8_book 12 = .ok (.invokevirtual 202, 3) := by decide +kernel
theorem dX8_book_15 : decode cX8_book 15 = .ok (.ireturn, 1) := by decide +kernel
theorem dX8_book_16 : decode cX8_book 16 = .ok (.aload_n 0, 1) := by decide +kernel
theorem dX8_book_17 : decode cX8_book 17 = .ok (.iload_n 1, 1) := by decide +kernel
theorem dX8_book_18 : decode cX8_book 18 = .ok (.invokevirtual 71, 3) := by decide +kernel
theorem dX8_book_21 : decode cX8_book 21 = .ok (.ifCond .eq 10, 3) := by decide +kernel
theorem dX8_book_24 : decode cX8_book 24 = .ok (.iload_n 2, 1) := by decide +kernel
theorem dX8_book_25 : decode cX8_book 25 = .ok (.invokestatic 59, 3) := by decide +kernel
theorem dX8_book_28 : decode cX8_book 28 = .ok (.ifCond .ne 5, 3) := by decide +kernel
theorem dX8_book_31 : decode cX8_book 31 = .ok (.iconst (-1), 1) := by decide +kernel
theorem dX8_book_32 : decode cX8_book 32 = .ok (.ireturn, 1) := by decide +kernel
theorem dX8_book_33 : decode cX8_book 33 = .ok (.aload_n 0, 1) := by decide +kernel
theorem dX8_book_34 : decode cX8_book 34 = .ok (.getfield 14, 3) := by decide +kernel
theorem dX8_book_37 : decode cX8_book 37 = .ok (.getfield 237, 3) := by decide +kernel
theorem dX8_book_40 : decode cX8_book 40 = .ok (.iload_n 1, 1) := by decide +kernel
theorem dX8_book_41 : decode cX8_book 41 = .ok (.iload_n 2, 1) := by decide +kernel
theorem dX8_book_42 : decode cX8_book 42 = .ok (.iconst 0, 1) := by decide +kernel
theorem dX8_book_43 : decode cX8_book 43 = .ok (.invokevirtual 207, 3) := by decide +kernel
theorem dX8_book_46 : decode cX8_book 46 = .ok (.ireturn, 1) := by decide +kernel
theorem dX8_looked_0 : decode cX8_looked 0 = .ok (.iconst 0, 1) := by decide +kernel
theorem dX8_looked_1 : decode cX8_looked 1 = .ok (.istore_n 1, 1) := by decide +kernel
theorem dX8_looked_2 : decode cX8_looked 2 = .ok (.iload_n 1, 1) := by decide +kernel
theorem dX8_looked_3 : decode cX8_looked 3 = .ok (.aload_n 0, 1) := by decide +kernel
theorem dX8_looked_4 : decode cX8_looked 4 = .ok (.getfield 14, 3) := by decide +kernel
theorem dX8_looked_7 : decode cX8_looked 7 = .ok (.getfield 237, 3) := by decide +kernel
theorem dX8_looked_10 : decode cX8_looked 10 = .ok (.getfield 228, 3) := by decide +kernel
theorem dX8_looked_13 : decode cX8_looked 13 = .ok (.if_icmp .ge 49, 3) := by decide +kernel
theorem dX8_looked_16 : decode cX8_looked 16 = .ok (.aload_n 0, 1) := by decide +kernel
theorem dX8_looked_17 : decode cX8_looked 17 = .ok (.getfield 14, 3) := by decide +kernel
theorem dX8_looked_20 : decode cX8_looked 20 = .ok (.getfield 74, 3) := by decide +kernel
theorem dX8_looked_23 : decode cX8_looked 23 = .ok (.aload_n 0, 1) := by decide +kernel
theorem dX8_looked_24 : decode cX8_looked 24 = .ok (.getfield 14, 3) := by decide +kernel
theorem dX8_looked_27 : decode cX8_looked 27 = .ok (.getfield 237, 3) := by decide +kernel
theorem dX8_looked_30 : decode cX8_looked 30 = .ok (.getfield 231, 3) := by decide +kernel
theorem dX8_looked_33 : decode cX8_looked 33 = .ok (.iload_n 1, 1) := by decide +kernel
theorem dX8_looked_34 : decode cX8_looked 34 = .ok (.iaload, 1) := by decide +kernel
theorem dX8_looked_35 : decode cX8_looked 35 = .ok (.aaload, 1) := by decide +kernel
theorem dX8_looked_36 : decode cX8_looked 36 = .ok (.getfield 90, 3) := by decide +kernel
theorem dX8_looked_39 : decode cX8_looked 39 = .ok (.aload_n 0, 1) := by decide +kernel
theorem dX8_looked_40 : decode cX8_looked 40 = .ok (.getfield 14, 3) := by decide +kernel
theorem dX8_looked_43 : decode cX8_looked 43 = .ok (.getfield 237, 3) := by decide +kernel
theorem dX8_looked_46 : decode cX8_looked 46 = .ok (.getfield 234, 3) := by decide +kernel
theorem dX8_looked_49 : decode cX8_looked 49 = .ok (.iload_n 1, 1) := by decide +kernel
theorem dX8_looked_50 : decode cX8_looked 50 = .ok (.iaload, 1) := by decide +kernel
theorem dX8_looked_51 : decode cX8_looked 51 = .ok (.if_icmp .eq 5, 3) := by decide +kernel
theorem dX8_looked_54 : decode cX8_looked 54 = .ok (.iload_n 1, 1) := by decide +kernel
theorem dX8_looked_55 : decode cX8_looked 55 = .ok (.ireturn, 1) := by decide +kernel
theorem dX8_looked_56 : decode cX8_looked 56 = .ok (.iinc 1 1, 3) := by decide +kernel
theorem dX8_looked_59 : decode cX8_looked 59 = .ok (.goto (-57), 3) := by decide +kernel
theorem dX8_looked_62 : decode cX8_looked 62 = .ok (.bipush (-5), 2) := by decide +kernel
theorem dX8_looked_64 : decode cX8_looked 64 = .ok (.ireturn, 1) := by decide +kernel
theorem dX8_judge_0 : decode cX8_judge 0 = .ok (.iload_n 1, 1) := by decide +kernel
theorem dX8_judge_1 : decode cX8_judge 1 = .ok (.invokestatic 240, 3) := by decide +kernel
theorem dX8_judge_4 : decode cX8_judge 4 = .ok (.ifCond .ne 5, 3) := by decide +kernel
theorem dX8_judge_7 : decode cX8_judge 7 = .ok (.iconst (-1), 1) := by decide +kernel
theorem dX8_judge_8 : decode cX8_judge 8 = .ok (.ireturn, 1) := by decide +kernel
theorem dX8_judge_9 : decode cX8_judge 9 = .ok (.aload_n 0, 1) := by decide +kernel
theorem dX8_judge_10 : decode cX8_judge 10 = .ok (.getfield 46, 3) := by decide +kernel
theorem dX8_judge_13 : decode cX8_judge 13 = .ok (.iload_n 1, 1) := by decide +kernel
theorem dX8_judge_14 : decode cX8_judge 14 = .ok (.aaload, 1) := by decide +kernel
theorem dX8_judge_15 : decode cX8_judge 15 = .ok (.astore_n 3, 1) := by decide +kernel
theorem dX8_judge_16 : decode cX8_judge 16 = .ok (.aload_n 3, 1) := by decide +kernel
theorem dX8_judge_17 : decode cX8_judge 17 = .ok (.getfield 243, 3) := by decide +kernel
theorem dX8_judge_20 : decode cX8_judge 20 = .ok (.iconst 1, 1) := by decide +kernel
theorem dX8_judge_21 : decode cX8_judge 21 = .ok (.if_icmp .eq 14, 3) := by decide +kernel
theorem dX8_judge_24 : decode cX8_judge 24 = .ok (.aload_n 3, 1) := by decide +kernel
theorem dX8_judge_25 : decode cX8_judge 25 = .ok (.getfield 243, 3) := by decide +kernel
theorem dX8_judge_28 : decode cX8_judge 28 = .ok (.iconst (-1), 1) := by decide +kernel
theorem dX8_judge_29 : decode cX8_judge 29 = .ok (.if_icmp .eq 6, 3) := by decide +kernel
theorem dX8_judge_32 : decode cX8_judge 32 = .ok (.bipush (-12), 2) := by decide +kernel
theorem dX8_judge_34 : decode cX8_judge 34 = .ok (.ireturn, 1) := by decide +kernel
theorem dX8_judge_35 : decode cX8_judge 35 = .ok (.aload_n 0, 1) := by decide +kernel
theorem dX8_judge_36 : decode cX8_judge 36 = .ok (.getfield 14, 3) := by decide +kernel
theorem dX8_judge_39 : decode cX8_judge 39 = .ok (.getfield 222, 3) := by decide +kernel
theorem dX8_judge_42 : decode cX8_judge 42 = .ok (.ifCond .ne 6, 3) := by decide +kernel
theorem dX8_judge_45 : decode cX8_judge 45 = .ok (.bipush (-5), 2) := by decide +kernel
theorem dX8_judge_47 : decode cX8_judge 47 = .ok (.ireturn, 1) := by decide +kernel
theorem dX8_judge_48 : decode cX8_judge 48 = .ok (.iconst 0, 1) := by decide +kernel
theorem dX8_judge_49 : decode cX8_judge 49 = .ok (.istore 4, 2) := by decide +kernel
theorem dX8_judge_51 : decode cX8_judge 51 = .ok (.iload 4, 2) := by decide +kernel
theorem dX8_judge_53 : decode cX8_judge 53 = .ok (.aload_n 0, 1) := by decide +kernel
theorem dX8_judge_54 : decode cX8_judge 54 = .ok (.getfield 14, 3) := by decide +kernel
theorem dX8_judge_57 : decode cX8_judge 57 = .ok (.getfield 222, 3) := by decide +kernel
theorem dX8_judge_60 : decode cX8_judge 60 = .ok (.if_icmp .ge 64, 3) := by decide +kernel
theorem dX8_judge_63 : decode cX8_judge 63 = .ok (.aload_n 3, 1) := by decide +kernel
theorem dX8_judge_64 : decode cX8_judge 64 = .ok (.iload_n 2, 1) := by decide +kernel
theorem dX8_judge_65 : decode cX8_judge 65 = .ok (.invokevirtual 246, 3) := by decide +kernel
theorem dX8_judge_68 : decode cX8_judge 68 = .ok (.ifCond .eq 14, 3) := by decide +kernel
theorem dX8_judge_71 : decode cX8_judge 71 = .ok (.aload_n 3, 1) := by decide +kernel
theorem dX8_judge_72 : decode cX8_judge 72 = .ok (.iload_n 2, 1) := by decide +kernel
theorem dX8_judge_73 : decode cX8_judge 73 = .ok (.iload 4, 2) := by decide +kernel
theorem dX8_judge_75 : decode cX8_judge 75 = .ok (.iadd, 1) := by decide +kernel
theorem dX8_judge_76 : decode cX8_judge 76 = .ok (.invokevirtual 246, 3) := by decide +kernel
theorem dX8_judge_79 : decode cX8_judge 79 = .ok (.ifCond .ne 9, 3) := by decide +kernel
theorem dX8_judge_82 : decode cX8_judge 82 = .ok (.bipush 100, 2) := by decide +kernel
theorem dX8_judge_84 : decode cX8_judge 84 = .ok (.iload 4, 2) := by decide +kernel
theorem dX8_judge_86 : decode cX8_judge 86 = .ok (.iadd, 1) := by decide +kernel
theorem dX8_judge_87 : decode cX8_judge 87 = .ok (.ireturn, 1) := by decide +kernel
theorem dX8_judge_88 : decode cX8_judge 88 = .ok (.aload_n 3, 1) := by decide +kernel
theorem dX8_judge_89 : decode cX8_judge 89 = .ok (.getfield 249, 3) := by decide +kernel
theorem dX8_judge_92 : decode cX8_judge 92 = .ok (.iload_n 2, 1) := by decide +kernel
theorem dX8_judge_93 : decode cX8_judge 93 = .ok (.iload 4, 2) := by decide +kernel
theorem dX8_judge_95 : decode cX8_judge 95 = .ok (.iadd, 1) := by decide +kernel
theorem dX8_judge_96 : decode cX8_judge 96 = .ok (.laload, 1) := by decide +kernel
theorem dX8_judge_97 : decode cX8_judge 97 = .ok (.aload_n 0, 1) := by decide +kernel
theorem dX8_judge_98 : decode cX8_judge 98 = .ok (.getfield 14, 3) := by decide +kernel
theorem dX8_judge_101 : decode cX8_judge 101 = .ok (.getfield 74, 3) := by decide +kernel
theorem dX8_judge_104 : decode cX8_judge 104 = .ok (.iload 4, 2) := by decide +kernel
theorem dX8_judge_106 : decode cX8_judge 106 = .ok (.aaload, 1) := by decide +kernel
theorem dX8_judge_107 : decode cX8_judge 107 = .ok (.getfield 96, 3) := by decide +kernel
theorem dX8_judge_110 : decode cX8_judge 110 = .ok (.i2l, 1) := by decide +kernel
theorem dX8_judge_111 : decode cX8_judge 111 = .ok (.lcmp, 1) := by decide +kernel
theorem dX8_judge_112 : decode cX8_judge 112 = .ok (.ifCond .eq 6, 3) := by decide +kernel
theorem dX8_judge_115 : decode cX8_judge 115 = .ok (.iload 4, 2) := by decide +kernel
theorem dX8_judge_117 : decode cX8_judge 117 = .ok (.ireturn, 1) := by decide +kernel
theorem dX8_judge_118 : decode cX8_judge 118 = .ok (.iinc 4 1, 3) := by decide +kernel
theorem dX8_judge_121 : decode cX8_judge 121 = .ok (.goto (-70), 3) := by decide +kernel
theorem dX8_judge_124 : decode cX8_judge 124 = .ok (.bipush (-5), 2) := by decide +kernel
theorem dX8_judge_126 : decode cX8_judge 126 = .ok (.ireturn, 1) := by decide +kernel
theorem dX8_image_0 : decode cX8_image 0 = .ok (.aload_n 0, 1) := by decide +kernel
theorem dX8_image_1 : decode cX8_image 1 = .ok (.getfield 18, 3) := by decide +kernel
theorem dX8_image_4 : decode cX8_image 4 = .ok (.aload_n 0, 1) := by decide +kernel
theorem dX8_image_5 : decode cX8_image 5 = .ok (.getfield 14, 3) := by decide +kernel
theorem dX8_image_8 : decode cX8_image 8 = .ok (.invokevirtual 181, 3) := by decide +kernel
theorem dX8_image_11 : decode cX8_image 11 = .ok (.aload_n 0, 1) := by decide +kernel
theorem dX8_image_12 : decode cX8_image 12 = .ok (.iconst 1, 1) := by decide +kernel
theorem dX8_image_13 : decode cX8_image 13 = .ok (.putfield 253, 3) := by decide +kernel
theorem dX8_image_16 : decode cX8_image 16 = .ok (.aload_n 0, 1) := by decide +kernel
theorem dX8_image_17 : decode cX8_image 17 = .ok (.getfield 14, 3) := by decide +kernel
theorem dX8_image_20 : decode cX8_image 20 = .ok (.getfield 222, 3) := by decide +kernel
theorem dX8_image_23 : decode cX8_image 23 = .ok (.ireturn, 1) := by decide +kernel
theorem dX8_undo_0 : decode cX8_undo 0 = .ok (.aload_n 0, 1) := by decide +kernel
theorem dX8_undo_1 : decode cX8_undo 1 = .ok (.getfield 253, 3) := by decide +kernel
theorem dX8_undo_4 : decode cX8_undo 4 = .ok (.ifCond .ne 6, 3) := by decide +kernel
theorem dX8_undo_7 : decode cX8_undo 7 = .ok (.bipush (-3), 2) := by decide +kernel
theorem dX8_undo_9 : decode cX8_undo 9 = .ok (.ireturn, 1) := by decide +kernel
theorem dX8_undo_10 : decode cX8_undo 10 = .ok (.aload_n 0, 1) := by decide +kernel
theorem dX8_undo_11 : decode cX8_undo 11 = .ok (.getfield 14, 3) := by decide +kernel
theorem dX8_undo_14 : decode cX8_undo 14 = .ok (.aload_n 0, 1) := by decide +kernel
theorem dX8_undo_15 : decode cX8_undo 15 = .ok (.getfield 18, 3) := by decide +kernel
theorem dX8_undo_18 : decode cX8_undo 18 = .ok (.invokevirtual 181, 3) := by decide +kernel
theorem dX8_undo_21 : decode cX8_undo 21 = .ok (.aload_n 0, 1) := by decide +kernel
theorem dX8_undo_22 : decode cX8_undo 22 = .ok (.getfield 14, 3) := by decide +kernel
theorem dX8_undo_25 : decode cX8_undo 25 = .ok (.getfield 222, 3) := by decide +kernel
theorem dX8_undo_28 : decode cX8_undo 28 = .ok (.ireturn, 1) := by decide +kernel
theorem dX8_act_0 : decode cX8_act 0 = .ok (.aload_n 0, 1) := by decide +kernel
theorem dX8_act_1 : decode cX8_act 1 = .ok (.iload_n 1, 1) := by decide +kernel
theorem dX8_act_2 : decode cX8_act 2 = .ok (.invokevirtual 71, 3) := by decide +kernel
theorem dX8_act_5 : decode cX8_act 5 = .ok (.ifCond .eq 12, 3) := by decide +kernel
theorem dX8_act_8 : decode cX8_act 8 = .ok (.iload_n 2, 1) := by decide +kernel
theorem dX8_act_9 : decode cX8_act 9 = .ok (.ifCond .lt 8, 3) := by decide +kernel
theorem dX8_act_12 : decode cX8_act 12 = .ok (.iload_n 2, 1) := by decide +kernel
theorem dX8_act_13 : decode cX8_act 13 = .ok (.iconst 3, 1) := by decide +kernel
theorem dX8_act_14 : decode cX8_act 14 = .ok (.if_icmp .lt 13, 3) := by decide +kernel
theorem dX8_act_17 : decode cX8_act 17 = .ok (.aload_n 0, 1) := by decide +kernel
theorem dX8_act_18 : decode cX8_act 18 = .ok (.getfield 53, 3) := by decide +kernel
theorem dX8_act_21 : decode cX8_act 21 = .ok (.iconst 0, 1) := by decide +kernel
theorem dX8_act_22 : decode cX8_act 22 = .ok (.putfield 257, 3) := by decide +kernel
theorem dX8_act_25 : decode cX8_act 25 = .ok (.iconst 0, 1) := by decide +kernel
theorem dX8_act_26 : decode cX8_act 26 = .ok (.ireturn, 1) := by decide +kernel
theorem dX8_act_27 : decode cX8_act 27 = .ok (.aload_n 0, 1) := by decide +kernel
theorem dX8_act_28 : decode cX8_act 28 = .ok (.getfield 53, 3) := by decide +kernel
theorem dX8_act_31 : decode cX8_act 31 = .ok (.aload_n 0, 1) := by decide +kernel
theorem dX8_act_32 : decode cX8_act 32 = .ok (.getfield 14, 3) := by decide +kernel
theorem dX8_act_35 : decode cX8_act 35 = .ok (.getfield 74, 3) := by decide +kernel
theorem dX8_act_38 : decode cX8_act 38 = .ok (.iload_n 1, 1) := by decide +kernel
theorem dX8_act_39 : decode cX8_act 39 = .ok (.aaload, 1) := by decide +kernel
theorem dX8_act_40 : decode cX8_act 40 = .ok (.iload_n 1, 1) := by decide +kernel
theorem dX8_act_41 : decode cX8_act 41 = .ok (.iload_n 2, 1) := by decide +kernel
theorem dX8_act_42 : decode cX8_act 42 = .ok (.iload_n 3, 1) := by decide +kernel
theorem dX8_act_43 : decode cX8_act 43 = .ok (.invokevirtual 260, 3) := by decide +kernel
theorem dX8_act_46 : decode cX8_act 46 = .ok (.ireturn, 1) := by decide +kernel
theorem dX8_trace_0 : decode cX8_trace 0 = .ok (.iload_n 1, 1) := by decide +kernel
theorem dX8_trace_1 : decode cX8_trace 1 = .ok (.ifCond .lt 32, 3) := by decide +kernel
theorem dX8_trace_4 : decode cX8_trace 4 = .ok (.iload_n 1, 1) := by decide +kernel
theorem dX8_trace_5 : decode cX8_trace 5 = .ok (.aload_n 0, 1) := by decide +kernel
theorem dX8_trace_6 : decode cX8_trace 6 = .ok (.getfield 53, 3) := by decide +kernel
theorem dX8_trace_9 : decode cX8_trace 9 = .ok (.getfield 257, 3) := by decide +kernel
theorem dX8_trace_12 : decode cX8_trace 12 = .ok (.if_icmp .ge 21, 3) := by decide +kernel
theorem dX8_trace_15 : decode cX8_trace 15 = .ok (.iload_n 1, 1) := by decide +kernel
theorem dX8_trace_16 : decode cX8_trace 16 = .ok (.bipush 20, 2) := by decide +kernel
theorem dX8_trace_18 : decode cX8_trace 18 = .ok (.if_icmp .ge 15, 3) := by decide +kernel
theorem dX8_trace_21 : decode cX8_trace 21 = .ok (.aload_n 0, 1) := by decide +kernel
theorem dX8_trace_22 : decode cX8_trace 22 = .ok (.getfield 53, 3) := by decide +kernel
theorem dX8_trace_25 : decode cX8_trace 25 = .ok (.getfield 264, 3) := by decide +kernel
theorem dX8_trace_28 : decode cX8_trace 28 = .ok (.iload_n 1, 1) := by decide +kernel
theorem dX8_trace_29 : decode cX8_trace 29 = .ok (.iaload, 1) := by decide +kernel
theorem dX8_trace_30 : decode cX8_trace 30 = .ok (.goto 4, 3) := by decide +kernel
theorem dX8_trace_33 : decode cX8_trace 33 = .ok (.iconst (-1), 1) := by decide +kernel
theorem dX8_trace_34 : decode cX8_trace 34 = .ok (.ireturn, 1) := by decide +kernel
theorem dX8_taken_0 : decode cX8_taken 0 = .ok (.iload_n 2, 1) := by decide +kernel
theorem dX8_taken_1 : decode cX8_taken 1 = .ok (.ifCond .lt 9, 3) := by decide +kernel
theorem dX8_taken_4 : decode cX8_taken 4 = .ok (.iload_n 2, 1) := by decide +kernel
theorem dX8_taken_5 : decode cX8_taken 5 = .ok (.bipush 7, 2) := by decide +kernel
theorem dX8_taken_7 : decode cX8_taken 7 = .ok (.if_icmp .lt 6, 3) := by decide +kernel
theorem dX8_taken_10 : decode cX8_taken 10 = .ok (.bipush (-2), 2) := by decide +kernel
theorem dX8_taken_12 : decode cX8_taken 12 = .ok (.ireturn, 1) := by decide +kernel
theorem dX8_taken_13 : decode cX8_taken 13 = .ok (.aload_n 0, 1) := by decide +kernel
theorem dX8_taken_14 : decode cX8_taken 14 = .ok (.iload_n 1, 1) := by decide +kernel
theorem dX8_taken_15 : decode cX8_taken 15 = .ok (.invokevirtual 71, 3) := by decide +kernel
theorem dX8_taken_18 : decode cX8_taken 18 = .ok (.ifCond .ne 6, 3) := by decide +kernel
theorem dX8_taken_21 : decode cX8_taken 21 = .ok (.bipush (-11), 2) := by decide +kernel
theorem dX8_taken_23 : decode cX8_taken 23 = .ok (.ireturn, 1) := by decide +kernel
theorem dX8_taken_24 : decode cX8_taken 24 = .ok (.aload_n 0, 1) := by decide +kernel
theorem dX8_taken_25 : decode cX8_taken 25 = .ok (.getfield 14, 3) := by decide +kernel
theorem dX8_taken_28 : decode cX8_taken 28 = .ok (.getfield 74, 3) := by decide +kernel
theorem dX8_taken_31 : decode cX8_taken 31 = .ok (.iload_n 1, 1) := by decide +kernel
theorem dX8_taken_32 : decode cX8_taken 32 = .ok (.aaload, 1) := by decide +kernel
theorem dX8_taken_33 : decode cX8_taken 33 = .ok (.getfield 78, 3) := by decide +kernel
theorem dX8_taken_36 : decode cX8_taken 36 = .ok (.istore_n 3, 1) := by decide +kernel
theorem dX8_taken_37 : decode cX8_taken 37 = .ok (.iload_n 3, 1) := by decide +kernel
theorem dX8_taken_38 : decode cX8_taken 38 = .ok (.iload_n 2, 1) := by decide +kernel
theorem dX8_taken_39 : decode cX8_taken 39 = .ok (.invokestatic 267, 3) := by decide +kernel
theorem dX8_taken_42 : decode cX8_taken 42 = .ok (.ifCond .eq 7, 3) := by decide +kernel
theorem dX8_taken_45 : decode cX8_taken 45 = .ok (.iload_n 3, 1) := by decide +kernel
theorem dX8_taken_46 : decode cX8_taken 46 = .ok (.goto 5, 3) := by decide +kernel
theorem dX8_taken_49 : decode cX8_taken 49 = .ok (.bipush (-12), 2) := by decide +kernel
theorem dX8_taken_51 : decode cX8_taken 51 = .ok (.ireturn, 1) := by decide +kernel
theorem dX8_count_0 : decode cX8_count 0 = .ok (.iload_n 1, 1) := by decide +kernel
theorem dX8_count_1 : decode cX8_count 1 = .ok (.tableswitch 117 0 7 #[47, 55, 63, 68, 79, 90, 101, 109], 47) := by decide +kernel
theorem dX8_count_48 : decode cX8_count 48 = .ok (.aload_n 0, 1) := by decide +kernel
theorem dX8_count_49 : decode cX8_count 49 = .ok (.getfield 14, 3) := by decide +kernel
theorem dX8_count_52 : decode cX8_count 52 = .ok (.getfield 222, 3) := by decide +kernel
theorem dX8_count_55 : decode cX8_count 55 = .ok (.ireturn, 1) := by decide +kernel
theorem dX8_count_56 : decode cX8_count 56 = .ok (.aload_n 0, 1) := by decide +kernel
theorem dX8_count_57 : decode cX8_count 57 = .ok (.getfield 14, 3) := by decide +kernel
theorem dX8_count_60 : decode cX8_count 60 = .ok (.getfield 195, 3) := by decide +kernel
theorem dX8_count_63 : decode cX8_count 63 = .ok (.ireturn, 1) := by decide +kernel
theorem dX8_count_64 : decode cX8_count 64 = .ok (.aload_n 0, 1) := by decide +kernel
theorem dX8_count_65 : decode cX8_count 65 = .ok (.getfield 150, 3) := by decide +kernel
theorem dX8_count_68 : decode cX8_count 68 = .ok (.ireturn, 1) := by decide +kernel
theorem dX8_count_69 : decode cX8_count 69 = .ok (.aload_n 0, 1) := by decide +kernel
theorem dX8_count_70 : decode cX8_count 70 = .ok (.getfield 14, 3) := by decide +kernel
theorem dX8_count_73 : decode cX8_count 73 = .ok (.getfield 198, 3) := by decide +kernel
theorem dX8_count_76 : decode cX8_count 76 = .ok (.getfield 228, 3) := by decide +kernel
theorem dX8_count_79 : decode cX8_count 79 = .ok (.ireturn, 1) := by decide +kernel
theorem dX8_count_80 : decode cX8_count 80 = .ok (.aload_n 0, 1) := by decide +kernel
theorem dX8_count_81 : decode cX8_count 81 = .ok (.getfield 14, 3) := by decide +kernel
theorem dX8_count_84 : decode cX8_count 84 = .ok (.getfield 225, 3) := by decide +kernel
theorem dX8_count_87 : decode cX8_count 87 = .ok (.getfield 228, 3) := by decide +kernel
theorem dX8_count_90 : decode cX8_count 90 = .ok (.ireturn, 1) := by decide +kernel
theorem dX8_count_91 : decode cX8_count 91 = .ok (.aload_n 0, 1) := by decide +kernel
theorem dX8_count_92 : decode cX8_count 92 = .ok (.getfield 14, 3) := by decide +kernel
theorem dX8_count_95 : decode cX8_count 95 = .ok (.getfield 237, 3) := by decide +kernel
theorem dX8_count_98 : decode cX8_count 98 = .ok (.getfield 228, 3) := by decide +kernel
theorem dX8_count_101 : decode cX8_count 101 = .ok (.ireturn, 1) := by decide +kernel
theorem dX8_count_102 : decode cX8_count 102 = .ok (.aload_n 0, 1) := by decide +kernel
theorem dX8_count_103 : decode cX8_count 103 = .ok (.getfield 34, 3) := by decide +kernel
theorem dX8_count_106 : decode cX8_count 106 = .ok (.getfield 157, 3) := by decide +kernel
theorem dX8_count_109 : decode cX8_count 109 = .ok (.ireturn, 1) := by decide +kernel
theorem dX8_count_110 : decode cX8_count 110 = .ok (.aload_n 0, 1) := by decide +kernel
theorem dX8_count_111 : decode cX8_count 111 = .ok (.getfield 53, 3) := by decide +kernel
theorem dX8_count_114 : decode cX8_count 114 = .ok (.getfield 257, 3) := by decide +kernel
theorem dX8_count_117 : decode cX8_count 117 = .ok (.ireturn, 1) := by decide +kernel
theorem dX8_count_118 : decode cX8_count 118 = .ok (.bipush (-2), 2) := by decide +kernel
theorem dX8_count_120 : decode cX8_count 120 = .ok (.ireturn, 1) := by decide +kernel
theorem dX8_tape_0 : decode cX8_tape 0 = .ok (.iload_n 1, 1) := by decide +kernel
theorem dX8_tape_1 : decode cX8_tape 1 = .ok (.invokestatic 240, 3) := by decide +kernel
theorem dX8_tape_4 : decode cX8_tape 4 = .ok (.ifCond .ne 5, 3) := by decide +kernel
theorem dX8_tape_7 : decode cX8_tape 7 = .ok (.iconst (-1), 1) := by decide +kernel
theorem dX8_tape_8 : decode cX8_tape 8 = .ok (.ireturn, 1) := by decide +kernel
theorem dX8_tape_9 : decode cX8_tape 9 = .ok (.iload_n 2, 1) := by decide +kernel
theorem dX8_tape_10 : decode cX8_tape 10 = .ok (.iconst (-1), 1) := by decide +kernel
theorem dX8_tape_11 : decode cX8_tape 11 = .ok (.if_icmp .lt 19, 3) := by decide +kernel
theorem dX8_tape_14 : decode cX8_tape 14 = .ok (.iload_n 2, 1) := by decide +kernel
theorem dX8_tape_15 : decode cX8_tape 15 = .ok (.iconst 4, 1) := by decide +kernel
theorem dX8_tape_16 : decode cX8_tape 16 = .ok (.if_icmp .gt 14, 3) := by decide +kernel
theorem dX8_tape_19 : decode cX8_tape 19 = .ok (.iload_n 2, 1) := by decide +kernel
theorem dX8_tape_20 : decode cX8_tape 20 = .ok (.iconst (-1), 1) := by decide +kernel
theorem dX8_tape_21 : decode cX8_tape 21 = .ok (.if_icmp .eq 12, 3) := by decide +kernel
theorem dX8_tape_24 : decode cX8_tape 24 = .ok (.iload_n 3, 1) := by decide +kernel
theorem dX8_tape_25 : decode cX8_tape 25 = .ok (.bipush 60, 2) := by decide +kernel
theorem dX8_tape_27 : decode cX8_tape 27 = .ok (.if_icmp .le 6, 3) := by decide +kernel
theorem dX8_tape_30 : decode cX8_tape 30 = .ok (.bipush (-2), 2) := by decide +kernel
theorem dX8_tape_32 : decode cX8_tape 32 = .ok (.ireturn, 1) := by decide +kernel
theorem dX8_tape_33 : decode cX8_tape 33 = .ok (.iload_n 2, 1) := by decide +kernel
theorem dX8_tape_34 : decode cX8_tape 34 = .ok (.iconst (-1), 1) := by decide +kernel
theorem dX8_tape_35 : decode cX8_tape 35 = .ok (.if_icmp .eq 10, 3) := by decide +kernel
theorem dX8_tape_38 : decode cX8_tape 38 = .ok (.iload_n 3, 1) := by decide +kernel
theorem dX8_tape_39 : decode cX8_tape 39 = .ok (.ifCond .ge 6, 3) := by decide +kernel
theorem dX8_tape_42 : decode cX8_tape 42 = .ok (.bipush (-14), 2) := by decide +kernel
theorem dX8_tape_44 : decode cX8_tape 44 = .ok (.ireturn, 1) := by decide +kernel
theorem dX8_tape_45 : decode cX8_tape 45 = .ok (.aload_n 0, 1) := by decide +kernel
theorem dX8_tape_46 : decode cX8_tape 46 = .ok (.getfield 46, 3) := by decide +kernel
theorem dX8_tape_49 : decode cX8_tape 49 = .ok (.iload_n 1, 1) := by decide +kernel
theorem dX8_tape_50 : decode cX8_tape 50 = .ok (.aaload, 1) := by decide +kernel
theorem dX8_tape_51 : decode cX8_tape 51 = .ok (.iload_n 2, 1) := by decide +kernel
theorem dX8_tape_52 : decode cX8_tape 52 = .ok (.iload_n 2, 1) := by decide +kernel
theorem dX8_tape_53 : decode cX8_tape 53 = .ok (.iconst (-1), 1) := by decide +kernel
theorem dX8_tape_54 : decode cX8_tape 54 = .ok (.if_icmp .ne 7, 3) := by decide +kernel
theorem dX8_tape_57 : decode cX8_tape 57 = .ok (.iconst 0, 1) := by decide +kernel
theorem dX8_tape_58 : decode cX8_tape 58 = .ok (.goto 4, 3) := by decide +kernel
theorem dX8_tape_61 : decode cX8_tape 61 = .ok (.iload_n 3, 1) := by decide +kernel
theorem dX8_tape_62 : decode cX8_tape 62 = .ok (.invokevirtual 270, 3) := by decide +kernel
theorem dX8_tape_65 : decode cX8_tape 65 = .ok (.iconst 1, 1) := by decide +kernel
theorem dX8_tape_66 : decode cX8_tape 66 = .ok (.ireturn, 1) := by decide +kernel
theorem dX8_item_0 : decode cX8_item 0 = .ok (.iload_n 1, 1) := by decide +kernel
theorem dX8_item_1 : decode cX8_item 1 = .ok (.invokestatic 240, 3) := by decide +kernel
theorem dX8_item_4 : decode cX8_item 4 = .ok (.ifCond .ne 5, 3) := by decide +kernel
theorem dX8_item_7 : decode cX8_item 7 = .ok (.iconst (-1), 1) := by decide +kernel
theorem dX8_item_8 : decode cX8_item 8 = .ok (.ireturn, 1) := by decide +kernel
theorem dX8_item_9 : decode cX8_item 9 = .ok (.aload_n 0, 1) := by decide +kernel
theorem dX8_item_10 : decode cX8_item 10 = .ok (.getfield 46, 3) := by decide +kernel
theorem dX8_item_13 : decode cX8_item 13 = .ok (.iload_n 1, 1) := by decide +kernel
theorem dX8_item_14 : decode cX8_item 14 = .ok (.aaload, 1) := by decide +kernel
theorem dX8_item_15 : decode cX8_item 15 = .ok (.astore 5, 2) := by decide +kernel
theorem dX8_item_17 : decode cX8_item 17 = .ok (.aload 5, 2) := by decide +kernel
theorem dX8_item_19 : decode cX8_item 19 = .ok (.getfield 243, 3) := by decide +kernel
theorem dX8_item_22 : decode cX8_item 22 = .ok (.iconst (-1), 1) := by decide +kernel
theorem dX8_item_23 : decode cX8_item 23 = .ok (.if_icmp .ne 6, 3) := by decide +kernel
theorem dX8_item_26 : decode cX8_item 26 = .ok (.bipush (-11), 2) := by decide +kernel
theorem dX8_item_28 : decode cX8_item 28 = .ok (.ireturn, 1) := by decide +kernel
theorem dX8_item_29 : decode cX8_item 29 = .ok (.aload 5, 2) := by decide +kernel
theorem dX8_item_31 : decode cX8_item 31 = .ok (.iload_n 2, 1) := by decide +kernel
theorem dX8_item_32 : decode cX8_item 32 = .ok (.invokevirtual 246, 3) := by decide +kernel
theorem dX8_item_35 : decode cX8_item 35 = .ok (.ifCond .ne 6, 3) := by decide +kernel
theorem dX8_item_38 : decode cX8_item 38 = .ok (.bipush (-13), 2) := by decide +kernel
theorem dX8_item_40 : decode cX8_item 40 = .ok (.ireturn, 1) := by decide +kernel
theorem dX8_item_41 : decode cX8_item 41 = .ok (.aload 5, 2) := by decide +kernel
theorem dX8_item_43 : decode cX8_item 43 = .ok (.getfield 249, 3) := by decide +kernel
theorem dX8_item_46 : decode cX8_item 46 = .ok (.iload_n 2, 1) := by decide +kernel
theorem dX8_item_47 : decode cX8_item 47 = .ok (.aload 5, 2) := by decide +kernel
theorem dX8_item_49 : decode cX8_item 49 = .ok (.lload_n 3, 1) := by decide +kernel
theorem dX8_item_50 : decode cX8_item 50 = .ok (.invokevirtual 273, 3) := by decide +kernel
theorem dX8_item_53 : decode cX8_item 53 = .ok (.lastore, 1) := by decide +kernel
theorem dX8_item_54 : decode cX8_item 54 = .ok (.iconst 1, 1) := by decide +kernel
theorem dX8_item_55 : decode cX8_item 55 = .ok (.ireturn, 1) := by decide +kernel
theorem dX8_read_0 : decode cX8_read 0 = .ok (.iload_n 1, 1) := by decide +kernel
theorem dX8_read_1 : decode cX8_read 1 = .ok (.invokestatic 240, 3) := by decide +kernel
theorem dX8_read_4 : decode cX8_read 4 = .ok (.ifCond .eq 30, 3) := by decide +kernel
theorem dX8_read_7 : decode cX8_read 7 = .ok (.aload_n 0, 1) := by decide +kernel
theorem dX8_read_8 : decode cX8_read 8 = .ok (.getfield 46, 3) := by decide +kernel
theorem dX8_read_11 : decode cX8_read 11 = .ok (.iload_n 1, 1) := by decide +kernel
theorem dX8_read_12 : decode cX8_read 12 = .ok (.aaload, 1) := by decide +kernel
theorem dX8_read_13 : decode cX8_read 13 = .ok (.iload_n 2, 1) := by decide +kernel
theorem dX8_read_14 : decode cX8_read 14 = .ok (.invokevirtual 246, 3) := by decide +kernel
theorem dX8_read_17 : decode cX8_read 17 = .ok (.ifCond .eq 17, 3) := by decide +kernel
theorem dX8_read_20 : decode cX8_read 20 = .ok (.aload_n 0, 1) := by decide +kernel
theorem dX8_read_21 : decode cX8_read 21 = .ok (.getfield 46, 3) := by decide +kernel
theorem dX8_read_24 : decode cX8_read 24 = .ok (.iload_n 1, 1) := by decide +kernel
theorem dX8_read_25 : decode cX8_read 25 = .ok (.aaload, 1) := by decide +kernel
theorem dX8_read_26 : decode cX8_read 26 = .ok (.getfield 249, 3) := by decide +kernel
theorem dX8_read_29 : decode cX8_read 29 = .ok (.iload_n 2, 1) := by decide +kernel
theorem dX8_read_30 : decode cX8_read 30 = .ok (.laload, 1) := by decide +kernel
theorem dX8_read_31 : decode cX8_read 31 = .ok (.goto 6, 3) := by decide +kernel
theorem dX8_read_34 : decode cX8_read 34 = .ok (.ldc2_w 216, 3) := by decide +kernel
theorem dX8_read_37 : decode cX8_read 37 = .ok (.lreturn, 1) := by decide +kernel
theorem dX8_shift_0 : decode cX8_shift 0 = .ok (.iload_n 1, 1) := by decide +kernel
theorem dX8_shift_1 : decode cX8_shift 1 = .ok (.invokestatic 240, 3) := by decide +kernel
theorem dX8_shift_4 : decode cX8_shift 4 = .ok (.ifCond .eq 10, 3) := by decide +kernel
theorem dX8_shift_7 : decode cX8_shift 7 = .ok (.iload_n 3, 1) := by decide +kernel
theorem dX8_shift_8 : decode cX8_shift 8 = .ok (.invokestatic 240, 3) := by decide +kernel
theorem dX8_shift_11 : decode cX8_shift 11 = .ok (.ifCond .ne 5, 3) := by decide +kernel
theorem dX8_shift_14 : decode cX8_shift 14 = .ok (.iconst (-1), 1) := by decide +kernel
theorem dX8_shift_15 : decode cX8_shift 15 = .ok (.ireturn, 1) := by decide +kernel
theorem dX8_shift_16 : decode cX8_shift 16 = .ok (.aload_n 0, 1) := by decide +kernel
theorem dX8_shift_17 : decode cX8_shift 17 = .ok (.getfield 46, 3) := by decide +kernel
theorem dX8_shift_20 : decode cX8_shift 20 = .ok (.iload_n 1, 1) := by decide +kernel
theorem dX8_shift_21 : decode cX8_shift 21 = .ok (.aaload, 1) := by decide +kernel
theorem dX8_shift_22 : decode cX8_shift 22 = .ok (.astore 6, 2) := by decide +kernel
theorem dX8_shift_24 : decode cX8_shift 24 = .ok (.aload_n 0, 1) := by decide +kernel
theorem dX8_shift_25 : decode cX8_shift 25 = .ok (.getfield 46, 3) := by decide +kernel
theorem dX8_shift_28 : decode cX8_shift 28 = .ok (.iload_n 3, 1) := by decide +kernel
theorem dX8_shift_29 : decode cX8_shift 29 = .ok (.aaload, 1) := by decide +kernel
theorem dX8_shift_30 : decode cX8_shift 30 = .ok (.astore 7, 2) := by decide +kernel
theorem dX8_shift_32 : decode cX8_shift 32 = .ok (.aload 6, 2) := by decide +kernel
theorem dX8_shift_34 : decode cX8_shift 34 = .ok (.getfield 243, 3) := by decide +kernel
theorem dX8_shift_37 : decode cX8_shift 37 = .ok (.iconst (-1), 1) := by decide +kernel
theorem dX8_shift_38 : decode cX8_shift 38 = .ok (.if_icmp .eq 12, 3) := by decide +kernel
theorem dX8_shift_41 : decode cX8_shift 41 = .ok (.aload 7, 2) := by decide +kernel
theorem dX8_shift_43 : decode cX8_shift 43 = .ok (.getfield 243, 3) := by decide +kernel
theorem dX8_shift_46 : decode cX8_shift 46 = .ok (.iconst (-1), 1) := by decide +kernel
theorem dX8_shift_47 : decode cX8_shift 47 = .ok (.if_icmp .ne 6, 3) := by decide +kernel
theorem dX8_shift_50 : decode cX8_shift 50 = .ok (.bipush (-11), 2) := by decide +kernel
theorem dX8_shift_52 : decode cX8_shift 52 = .ok (.ireturn, 1) := by decide +kernel
theorem dX8_shift_53 : decode cX8_shift 53 = .ok (.aload 6, 2) := by decide +kernel
theorem dX8_shift_55 : decode cX8_shift 55 = .ok (.getfield 243, 3) := by decide +kernel
theorem dX8_shift_58 : decode cX8_shift 58 = .ok (.aload 7, 2) := by decide +kernel
theorem dX8_shift_60 : decode cX8_shift 60 = .ok (.getfield 243, 3) := by decide +kernel
theorem dX8_shift_63 : decode cX8_shift 63 = .ok (.if_icmp .eq 6, 3) := by decide +kernel
theorem dX8_shift_66 : decode cX8_shift 66 = .ok (.bipush (-12), 2) := by decide +kernel
theorem dX8_shift_68 : decode cX8_shift 68 = .ok (.ireturn, 1) := by decide +kernel
theorem dX8_shift_69 : decode cX8_shift 69 = .ok (.aload 6, 2) := by decide +kernel
theorem dX8_shift_71 : decode cX8_shift 71 = .ok (.iload_n 2, 1) := by decide +kernel
theorem dX8_shift_72 : decode cX8_shift 72 = .ok (.iload 5, 2) := by decide +kernel
theorem dX8_shift_74 : decode cX8_shift 74 = .ok (.invokevirtual 277, 3) := by decide +kernel
theorem dX8_shift_77 : decode cX8_shift 77 = .ok (.ifCond .eq 15, 3) := by decide +kernel
theorem dX8_shift_80 : decode cX8_shift 80 = .ok (.aload 7, 2) := by decide +kernel
theorem dX8_shift_82 : decode cX8_shift 82 = .ok (.iload 4, 2) := by decide +kernel
theorem dX8_shift_84 : decode cX8_shift 84 = .ok (.iload 5, 2) := by decide +kernel
theorem dX8_shift_86 : decode cX8_shift 86 = .ok (.invokevirtual 277, 3) := by decide +kernel
theorem dX8_shift_89 : decode cX8_shift 89 = .ok (.ifCond .ne 6, 3) := by decide +kernel
theorem dX8_shift_92 : decode cX8_shift 92 = .ok (.bipush (-13), 2) := by decide +kernel
theorem dX8_shift_94 : decode cX8_shift 94 = .ok (.ireturn, 1) := by decide +kernel
theorem dX8_shift_95 : decode cX8_shift 95 = .ok (.aload 6, 2) := by decide +kernel
theorem dX8_shift_97 : decode cX8_shift 97 = .ok (.getfield 249, 3) := by decide +kernel
theorem dX8_shift_100 : decode cX8_shift 100 = .ok (.iload_n 2, 1) := by decide +kernel
theorem dX8_shift_101 : decode cX8_shift 101 = .ok (.aload 7, 2) := by decide +kernel
theorem dX8_shift_103 : decode cX8_shift 103 = .ok (.getfield 249, 3) := by decide +kernel
theorem dX8_shift_106 : decode cX8_shift 106 = .ok (.iload 4, 2) := by decide +kernel
theorem dX8_shift_108 : decode cX8_shift 108 = .ok (.iload 5, 2) := by decide +kernel
theorem dX8_shift_110 : decode cX8_shift 110 = .ok (.invokestatic 280, 3) := by decide +kernel
theorem dX8_shift_113 : decode cX8_shift 113 = .ok (.iload 5, 2) := by decide +kernel
theorem dX8_shift_115 : decode cX8_shift 115 = .ok (.ireturn, 1) := by decide +kernel
theorem dX8_isQuarter_0 : decode cX8_isQuarter 0 = .ok (.iload_n 0, 1) := by decide +kernel
theorem dX8_isQuarter_1 : decode cX8_isQuarter 1 = .ok (.ifCond .lt 13, 3) := by decide +kernel
theorem dX8_isQuarter_4 : decode cX8_isQuarter 4 = .ok (.iload_n 0, 1) := by decide +kernel
theorem dX8_isQuarter_5 : decode cX8_isQuarter 5 = .ok (.bipush 6, 2) := by decide +kernel
theorem dX8_isQuarter_7 : decode cX8_isQuarter 7 = .ok (.if_icmp .ge 7, 3) := by decide +kernel
theorem dX8_isQuarter_10 : decode cX8_isQuarter 10 = .ok (.iconst 1, 1) := by decide +kernel
theorem dX8_isQuarter_11 : decode cX8_isQuarter 11 = .ok (.goto 4, 3) := by decide +kernel
theorem dX8_isQuarter_14 : decode cX8_isQuarter 14 = .ok (.iconst 0, 1) := by decide +kernel
theorem dX8_isQuarter_15 : decode cX8_isQuarter 15 = .ok (.ireturn, 1) := by decide +kernel
theorem dX8_isTape_0 : decode cX8_isTape 0 = .ok (.iload_n 0, 1) := by decide +kernel
theorem dX8_isTape_1 : decode cX8_isTape 1 = .ok (.ifCond .lt 13, 3) := by decide +kernel
theorem dX8_isTape_4 : decode cX8_isTape 4 = .ok (.iload_n 0, 1) := by decide +kernel
theorem dX8_isTape_5 : decode cX8_isTape 5 = .ok (.bipush 6, 2) := by decide +kernel
theorem dX8_isTape_7 : decode cX8_isTape 7 = .ok (.if_icmp .ge 7, 3) := by decide +kernel
theorem dX8_isTape_10 : decode cX8_isTape 10 = .ok (.iconst 1, 1) := by decide +kernel
theorem dX8_isTape_11 : decode cX8_isTape 11 = .ok (.goto 4, 3) := by decide +kernel
theorem dX8_isTape_14 : decode cX8_isTape 14 = .ok (.iconst 0, 1) := by decide +kernel
theorem dX8_isTape_15 : decode cX8_isTape 15 = .ok (.ireturn, 1) := by decide +kernel
theorem dX8_isPart_0 : decode cX8_isPart 0 = .ok (.iload_n 0, 1) := by decide +kernel
theorem dX8_isPart_1 : decode cX8_isPart 1 = .ok (.ifCond .eq 8, 3) := by decide +kernel
theorem dX8_isPart_4 : decode cX8_isPart 4 = .ok (.iload_n 0, 1) := by decide +kernel
theorem dX8_isPart_5 : decode cX8_isPart 5 = .ok (.iconst 1, 1) := by decide +kernel
theorem dX8_isPart_6 : decode cX8_isPart 6 = .ok (.if_icmp .ne 7, 3) := by decide +kernel
theorem dX8_isPart_9 : decode cX8_isPart 9 = .ok (.iconst 1, 1) := by decide +kernel
theorem dX8_isPart_10 : decode cX8_isPart 10 = .ok (.goto 4, 3) := by decide +kernel
theorem dX8_isPart_13 : decode cX8_isPart 13 = .ok (.iconst 0, 1) := by decide +kernel
theorem dX8_isPart_14 : decode cX8_isPart 14 = .ok (.ireturn, 1) := by decide +kernel
theorem dX8_isPerson_0 : decode cX8_isPerson 0 = .ok (.iload_n 1, 1) := by decide +kernel
theorem dX8_isPerson_1 : decode cX8_isPerson 1 = .ok (.ifCond .lt 18, 3) := by decide +kernel
theorem dX8_isPerson_4 : decode cX8_isPerson 4 = .ok (.iload_n 1, 1) := by decide +kernel
theorem dX8_isPerson_5 : decode cX8_isPerson 5 = .ok (.aload_n 0, 1) := by decide +kernel
theorem dX8_isPerson_6 : decode cX8_isPerson 6 = .ok (.getfield 14, 3) := by decide +kernel
theorem dX8_isPerson_9 : decode cX8_isPerson 9 = .ok (.getfield 222, 3) := by decide +kernel
theorem dX8_isPerson_12 : decode cX8_isPerson 12 = .ok (.if_icmp .ge 7, 3) := by decide +kernel
theorem dX8_isPerson_15 : decode cX8_isPerson 15 = .ok (.iconst 1, 1) := by decide +kernel
theorem dX8_isPerson_16 : decode cX8_isPerson 16 = .ok (.goto 4, 3) := by decide +kernel
theorem dX8_isPerson_19 : decode cX8_isPerson 19 = .ok (.iconst 0, 1) := by decide +kernel
theorem dX8_isPerson_20 : decode cX8_isPerson 20 = .ok (.ireturn, 1) := by decide +kernel
theorem dX8_isBridge_0 : decode cX8_isBridge 0 = .ok (.iload_n 1, 1) := by decide +kernel
theorem dX8_isBridge_1 : decode cX8_isBridge 1 = .ok (.ifCond .lt 18, 3) := by decide +kernel
theorem dX8_isBridge_4 : decode cX8_isBridge 4 = .ok (.iload_n 1, 1) := by decide +kernel
theorem dX8_isBridge_5 : decode cX8_isBridge 5 = .ok (.aload_n 0, 1) := by decide +kernel
theorem dX8_isBridge_6 : decode cX8_isBridge 6 = .ok (.getfield 14, 3) := by decide +kernel
theorem dX8_isBridge_9 : decode cX8_isBridge 9 = .ok (.getfield 195, 3) := by decide +kernel
theorem dX8_isBridge_12 : decode cX8_isBridge 12 = .ok (.if_icmp .ge 7, 3) := by decide +kernel
theorem dX8_isBridge_15 : decode cX8_isBridge 15 = .ok (.iconst 1, 1) := by decide +kernel
theorem dX8_isBridge_16 : decode cX8_isBridge 16 = .ok (.goto 4, 3) := by decide +kernel
theorem dX8_isBridge_19 : decode cX8_isBridge 19 = .ok (.iconst 0, 1) := by decide +kernel
theorem dX8_isBridge_20 : decode cX8_isBridge 20 = .ok (.ireturn, 1) := by decide +kernel
theorem dX8_isUnder_0 : decode cX8_isUnder 0 = .ok (.iload_n 0, 1) := by decide +kernel
theorem dX8_isUnder_1 : decode cX8_isUnder 1 = .ok (.istore_n 2, 1) := by decide +kernel
theorem dX8_isUnder_2 : decode cX8_isUnder 2 = .ok (.iconst 0, 1) := by decide +kernel
theorem dX8_isUnder_3 : decode cX8_isUnder 3 = .ok (.istore_n 3, 1) := by decide +kernel
theorem dX8_isUnder_4 : decode cX8_isUnder 4 = .ok (.iload_n 3, 1) := by decide +kernel
theorem dX8_isUnder_5 : decode cX8_isUnder 5 = .ok (.bipush 7, 2) := by decide +kernel
theorem dX8_isUnder_7 : decode cX8_isUnder 7 = .ok (.if_icmp .ge 26, 3) := by decide +kernel
theorem dX8_isUnder_10 : decode cX8_isUnder 10 = .ok (.iload_n 2, 1) := by decide +kernel
theorem dX8_isUnder_11 : decode cX8_isUnder 11 = .ok (.ifCond .lt 22, 3) := by decide +kernel
theorem dX8_isUnder_14 : decode cX8_isUnder 14 = .ok (.iload_n 2, 1) := by decide +kernel
theorem dX8_isUnder_15 : decode cX8_isUnder 15 = .ok (.iload_n 1, 1) := by decide +kernel
theorem dX8_isUnder_16 : decode cX8_isUnder 16 = .ok (.if_icmp .ne 5, 3) := by decide +kernel
theorem dX8_isUnder_19 : decode cX8_isUnder 19 = .ok (.iconst 1, 1) := by decide +kernel
theorem dX8_isUnder_20 : decode cX8_isUnder 20 = .ok (.ireturn, 1) := by decide +kernel
theorem dX8_isUnder_21 : decode cX8_isUnder 21 = .ok (.getstatic 286, 3) := by decide +kernel
theorem dX8_isUnder_24 : decode cX8_isUnder 24 = .ok (.iload_n 2, 1) := by decide +kernel
theorem dX8_isUnder_25 : decode cX8_isUnder 25 = .ok (.iaload, 1) := by decide +kernel
theorem dX8_isUnder_26 : decode cX8_isUnder 26 = .ok (.istore_n 2, 1) := by decide +kernel
theorem dX8_isUnder_27 : decode cX8_isUnder 27 = .ok (.iinc 3 1, 3) := by decide +kernel
theorem dX8_isUnder_30 : decode cX8_isUnder 30 = .ok (.goto (-26), 3) := by decide +kernel
theorem dX8_isUnder_33 : decode cX8_isUnder 33 = .ok (.iconst 0, 1) := by decide +kernel
theorem dX8_isUnder_34 : decode cX8_isUnder 34 = .ok (.ireturn, 1) := by decide +kernel
theorem dX8_lengthOrFar_0 : decode cX8_lengthOrFar 0 = .ok (.iload_n 0, 1) := by decide +kernel
theorem dX8_lengthOrFar_1 : decode cX8_lengthOrFar 1 = .ok (.bipush (-5), 2) := by decide +kernel
theorem dX8_lengthOrFar_3 : decode cX8_lengthOrFar 3 = .ok (.if_icmp .ne 8, 3) := by decide +kernel
theorem dX8_lengthOrFar_6 : decode cX8_lengthOrFar 6 = .ok (.bipush 13, 2) := by decide +kernel
theorem dX8_lengthOrFar_8 : decode cX8_lengthOrFar 8 = .ok (.goto 4, 3) := by decide +kernel
theorem dX8_lengthOrFar_11 : decode cX8_lengthOrFar 11 = .ok (.iload_n 0, 1) := by decide +kernel
theorem dX8_lengthOrFar_12 : decode cX8_lengthOrFar 12 = .ok (.ireturn, 1) := by decide +kernel
theorem dX8_lowest_0 : decode cX8_lowest 0 = .ok (.iconst 1, 1) := by decide +kernel
theorem dX8_lowest_1 : decode cX8_lowest 1 = .ok (.istore_n 3, 1) := by decide +kernel
theorem dX8_lowest_2 : decode cX8_lowest 2 = .ok (.iconst 2, 1) := by decide +kernel
theorem dX8_lowest_3 : decode cX8_lowest 3 = .ok (.istore 4, 2) := by decide +kernel
theorem dX8_lowest_5 : decode cX8_lowest 5 = .ok (.iload 4, 2) := by decide +kernel
theorem dX8_lowest_7 : decode cX8_lowest 7 = .ok (.iload_n 1, 1) := by decide +kernel
theorem dX8_lowest_8 : decode cX8_lowest 8 = .ok (.if_icmp .gt 26, 3) := by decide +kernel
theorem dX8_lowest_11 : decode cX8_lowest 11 = .ok (.iload_n 0, 1) := by decide +kernel
theorem dX8_lowest_12 : decode cX8_lowest 12 = .ok (.iload 4, 2) := by decide +kernel
theorem dX8_lowest_14 : decode cX8_lowest 14 = .ok (.irem, 1) := by decide +kernel
theorem dX8_lowest_15 : decode cX8_lowest 15 = .ok (.ifCond .ne 13, 3) := by decide +kernel
theorem dX8_lowest_18 : decode cX8_lowest 18 = .ok (.iload_n 1, 1) := by decide +kernel
theorem dX8_lowest_19 : decode cX8_lowest 19 = .ok (.iload 4, 2) := by decide +kernel
theorem dX8_lowest_21 : decode cX8_lowest 21 = .ok (.irem, 1) := by decide +kernel
theorem dX8_lowest_22 : decode cX8_lowest 22 = .ok (.ifCond .ne 6, 3) := by decide +kernel
theorem dX8_lowest_25 : decode cX8_lowest 25 = .ok (.iload 4, 2) := by decide +kernel
theorem dX8_lowest_27 : decode cX8_lowest 27 = .ok (.istore_n 3, 1) := by decide +kernel
theorem dX8_lowest_28 : decode cX8_lowest 28 = .ok (.iinc 4 1, 3) := by decide +kernel
theorem dX8_lowest_31 : decode cX8_lowest 31 = .ok (.goto (-26), 3) := by decide +kernel
theorem dX8_lowest_34 : decode cX8_lowest 34 = .ok (.iload_n 2, 1) := by decide +kernel
theorem dX8_lowest_35 : decode cX8_lowest 35 = .ok (.ifCond .ne 7, 3) := by decide +kernel
theorem dX8_lowest_38 : decode cX8_lowest 38 = .ok (.iload_n 0, 1) := by decide +kernel
theorem dX8_lowest_39 : decode cX8_lowest 39 = .ok (.goto 4, 3) := by decide +kernel
theorem dX8_lowest_42 : decode cX8_lowest 42 = .ok (.iload_n 1, 1) := by decide +kernel
theorem dX8_lowest_43 : decode cX8_lowest 43 = .ok (.iload_n 3, 1) := by decide +kernel
theorem dX8_lowest_44 : decode cX8_lowest 44 = .ok (.idiv, 1) := by decide +kernel
theorem dX8_lowest_45 : decode cX8_lowest 45 = .ok (.i2l, 1) := by decide +kernel
theorem dX8_lowest_46 : decode cX8_lowest 46 = .ok (.lreturn, 1) := by decide +kernel
theorem dX8_hoursGo_0 : decode cX8_hoursGo 0 = .ok (.iconst 0, 1) := by decide +kernel
theorem dX8_hoursGo_1 : decode cX8_hoursGo 1 = .ok (.istore 4, 2) := by decide +kernel
theorem dX8_hoursGo_3 : decode cX8_hoursGo 3 = .ok (.iload 4, 2) := by decide +kernel
theorem dX8_hoursGo_5 : decode cX8_hoursGo 5 = .ok (.iload_n 2, 1) := by decide +kernel
theorem dX8_hoursGo_6 : decode cX8_hoursGo 6 = .ok (.if_icmp .ge 143, 3) := by decide +kernel
theorem dX8_hoursGo_9 : decode cX8_hoursGo 9 = .ok (.aload_n 1, 1) := by decide +kernel
theorem dX8_hoursGo_10 : decode cX8_hoursGo 10 = .ok (.getfield 164, 3) := by decide +kernel
theorem dX8_hoursGo_13 : decode cX8_hoursGo 13 = .ok (.bipush 10, 2) := by decide +kernel
theorem dX8_hoursGo_15 : decode cX8_hoursGo 15 = .ok (.irem, 1) := by decide +kernel
theorem dX8_hoursGo_16 : decode cX8_hoursGo 16 = .ok (.aload_n 1, 1) := by decide +kernel
theorem dX8_hoursGo_17 : decode cX8_hoursGo 17 = .ok (.invokevirtual 167, 3) := by decide +kernel
theorem dX8_hoursGo_20 : decode cX8_hoursGo 20 = .ok (.if_icmp .ge 7, 3) := by decide +kernel
theorem dX8_hoursGo_23 : decode cX8_hoursGo 23 = .ok (.iconst 1, 1) := by decide +kernel
theorem dX8_hoursGo_24 : decode cX8_hoursGo 24 = .ok (.goto 4, 3) := by decide +kernel
theorem dX8_hoursGo_27 : decode cX8_hoursGo 27 = .ok (.iconst 0, 1) := by decide +kernel
theorem dX8_hoursGo_28 : decode cX8_hoursGo 28 = .ok (.istore 5, 2) := by decide +kernel
theorem dX8_hoursGo_30 : decode cX8_hoursGo 30 = .ok (.iconst 0, 1) := by decide +kernel
theorem dX8_hoursGo_31 : decode cX8_hoursGo 31 = .ok (.istore 6, 2) := by decide +kernel
theorem dX8_hoursGo_33 : decode cX8_hoursGo 33 = .ok (.iload 6, 2) := by decide +kernel
theorem dX8_hoursGo_35 : decode cX8_hoursGo 35 = .ok (.aload_n 1, 1) := by decide +kernel
theorem dX8_hoursGo_36 : decode cX8_hoursGo 36 = .ok (.getfield 222, 3) := by decide +kernel
theorem dX8_hoursGo_39 : decode cX8_hoursGo 39 = .ok (.if_icmp .ge 94, 3) := by decide +kernel
theorem dX8_hoursGo_42 : decode cX8_hoursGo 42 = .ok (.iload 5, 2) := by decide +kernel
theorem dX8_hoursGo_44 : decode cX8_hoursGo 44 = .ok (.ifCond .ne 89, 3) := by decide +kernel
theorem dX8_hoursGo_47 : decode cX8_hoursGo 47 = .ok (.aload_n 1, 1) := by decide +kernel
theorem dX8_hoursGo_48 : decode cX8_hoursGo 48 = .ok (.getfield 74, 3) := by decide +kernel
theorem dX8_hoursGo_51 : decode cX8_hoursGo 51 = .ok (.iload 6, 2) := by decide +kernel
theorem dX8_hoursGo_53 : decode cX8_hoursGo 53 = .ok (.aaload, 1) := by decide +kernel
theorem dX8_hoursGo_54 : decode cX8_hoursGo 54 = .ok (.astore 7, 2) := by decide +kernel
theorem dX8_hoursGo_56 : decode cX8_hoursGo 56 = .ok (.iload_n 3, 1) := by decide +kernel
theorem dX8_hoursGo_57 : decode cX8_hoursGo 57 = .ok (.iload 6, 2) := by decide +kernel
theorem dX8_hoursGo_59 : decode cX8_hoursGo 59 = .ok (.ishr, 1) := by decide +kernel
theorem dX8_hoursGo_60 : decode cX8_hoursGo 60 = .ok (.iconst 1, 1) := by decide +kernel
theorem dX8_hoursGo_61 : decode cX8_hoursGo 61 = .ok (.iand, 1) := by decide +kernel
theorem dX8_hoursGo_62 : decode cX8_hoursGo 62 = .ok (.ifCond .eq 25, 3) := by decide +kernel
theorem dX8_hoursGo_65 : decode cX8_hoursGo 65 = .ok (.aload 7, 2) := by decide +kernel
theorem dX8_hoursGo_67 : decode cX8_hoursGo 67 = .ok (.getfield 93, 3) := by decide +kernel
theorem dX8_hoursGo_70 : decode cX8_hoursGo 70 = .ok (.bipush (-5), 2) := by decide +kernel
theorem dX8_hoursGo_72 : decode cX8_hoursGo 72 = .ok (.if_icmp .eq 15, 3) := by decide +kernel
theorem dX8_hoursGo_75 : decode cX8_hoursGo 75 = .ok (.aload 7, 2) := by decide +kernel
theorem dX8_hoursGo_77 : decode cX8_hoursGo 77 = .ok (.invokevirtual 289, 3) := by decide +kernel
theorem dX8_hoursGo_80 : decode cX8_hoursGo 80 = .ok (.ifCond .ne 7, 3) := by decide +kernel
theorem dX8_hoursGo_83 : decode cX8_hoursGo 83 = .ok (.iconst 1, 1) := by decide +kernel
theorem dX8_hoursGo_84 : decode cX8_hoursGo 84 = .ok (.goto 4, 3) := by decide +kernel
theorem dX8_hoursGo_87 : decode cX8_hoursGo 87 = .ok (.iconst 0, 1) := by decide +kernel
theorem dX8_hoursGo_88 : decode cX8_hoursGo 88 = .ok (.istore 8, 2) := by decide +kernel
theorem dX8_hoursGo_90 : decode cX8_hoursGo 90 = .ok (.iload 8, 2) := by decide +kernel
theorem dX8_hoursGo_92 : decode cX8_hoursGo 92 = .ok (.ifCond .eq 35, 3) := by decide +kernel
theorem dX8_hoursGo_95 : decode cX8_hoursGo 95 = .ok (.aload_n 0, 1) := by decide +kernel
theorem dX8_hoursGo_96 : decode cX8_hoursGo 96 = .ok (.getfield 27, 3) := by decide +kernel
theorem dX8_hoursGo_99 : decode cX8_hoursGo 99 = .ok (.aload_n 1, 1) := by decide +kernel
theorem dX8_hoursGo_100 : decode cX8_hoursGo 100 = .ok (.iload 6, 2) := by decide +kernel
theorem dX8_hoursGo_102 : decode cX8_hoursGo 102 = .ok (.aload 7, 2) := by decide +kernel
theorem dX8_hoursGo_104 : decode cX8_hoursGo 104 = .ok (.getfield 93, 3) := by decide +kernel
theorem dX8_hoursGo_107 : decode cX8_hoursGo 107 = .ok (.invokevirtual 185, 3) := by decide +kernel
theorem dX8_hoursGo_110 : decode cX8_hoursGo 110 = .ok (.ifCond .le 17, 3) := by decide +kernel
theorem dX8_hoursGo_113 : decode cX8_hoursGo 113 = .ok (.aload_n 1, 1) := by decide +kernel
theorem dX8_hoursGo_114 : decode cX8_hoursGo 114 = .ok (.iload 6, 2) := by decide +kernel
theorem dX8_hoursGo_116 : decode cX8_hoursGo 116 = .ok (.aload_n 0, 1) := by decide +kernel
theorem dX8_hoursGo_117 : decode cX8_hoursGo 117 = .ok (.getfield 27, 3) := by decide +kernel
theorem dX8_hoursGo_120 : decode cX8_hoursGo 120 = .ok (.iconst 0, 1) := by decide +kernel
theorem dX8_hoursGo_121 : decode cX8_hoursGo 121 = .ok (.invokevirtual 189, 3) := by decide +kernel
theorem dX8_hoursGo_124 : decode cX8_hoursGo 124 = .ok (.invokevirtual 129, 3) := by decide +kernel
theorem dX8_hoursGo_127 : decode cX8_hoursGo 127 = .ok (.iinc 6 1, 3) := by decide +kernel
theorem dX8_hoursGo_130 : decode cX8_hoursGo 130 = .ok (.goto (-97), 3) := by decide +kernel
theorem dX8_hoursGo_133 : decode cX8_hoursGo 133 = .ok (.aload_n 1, 1) := by decide +kernel
theorem dX8_hoursGo_134 : decode cX8_hoursGo 134 = .ok (.dup, 1) := by decide +kernel
theorem dX8_hoursGo_135 : decode cX8_hoursGo 135 = .ok (.getfield 164, 3) := by decide +kernel
theorem dX8_hoursGo_138 : decode cX8_hoursGo 138 = .ok (.iconst 1, 1) := by decide +kernel
theorem dX8_hoursGo_139 : decode cX8_hoursGo 139 = .ok (.iadd, 1) := by decide +kernel
theorem dX8_hoursGo_140 : decode cX8_hoursGo 140 = .ok (.putfield 164, 3) := by decide +kernel
theorem dX8_hoursGo_143 : decode cX8_hoursGo 143 = .ok (.iinc 4 1, 3) := by decide +kernel
theorem dX8_hoursGo_146 : decode cX8_hoursGo 146 = .ok (.goto (-143), 3) := by decide +kernel
theorem dX8_hoursGo_149 : decode cX8_hoursGo 149 = .ok (.return_, 1) := by decide +kernel
theorem dX8_hoursUntilDone_0 : decode cX8_hoursUntilDone 0 = .ok (.aload_n 0, 1) := by decide +kernel
theorem dX8_hoursUntilDone_1 : decode cX8_hoursUntilDone 1 = .ok (.getfield 14, 3) := by decide +kernel
theorem dX8_hoursUntilDone_4 : decode cX8_hoursUntilDone 4 = .ok (.getfield 74, 3) := by decide +kernel
theorem dX8_hoursUntilDone_7 : decode cX8_hoursUntilDone 7 = .ok (.iload_n 1, 1) := by decide +kernel
theorem dX8_hoursUntilDone_8 : decode cX8_hoursUntilDone 8 = .ok (.aaload, 1) := by decide +kernel
theorem dX8_hoursUntilDone_9 : decode cX8_hoursUntilDone 9 = .ok (.getfield 93, 3) := by decide +kernel
theorem dX8_hoursUntilDone_12 : decode cX8_hoursUntilDone 12 = .ok (.bipush (-5), 2) := by decide +kernel
theorem dX8_hoursUntilDone_14 : decode cX8_hoursUntilDone 14 = .ok (.if_icmp .ne 6, 3) := by decide +kernel
theorem dX8_hoursUntilDone_17 : decode cX8_hoursUntilDone 17 = .ok (.bipush (-5), 2) := by decide +kernel
theorem dX8_hoursUntilDone_19 : decode cX8_hoursUntilDone 19 = .ok (.ireturn, 1) := by decide +kernel
theorem dX8_hoursUntilDone_20 : decode cX8_hoursUntilDone 20 = .ok (.aload_n 0, 1) := by decide +kernel
theorem dX8_hoursUntilDone_21 : decode cX8_hoursUntilDone 21 = .ok (.getfield 21, 3) := by decide +kernel
theorem dX8_hoursUntilDone_24 : decode cX8_hoursUntilDone 24 = .ok (.aload_n 0, 1) := by decide +kernel
theorem dX8_hoursUntilDone_25 : decode cX8_hoursUntilDone 25 = .ok (.getfield 14, 3) := by decide +kernel
theorem dX8_hoursUntilDone_28 : decode cX8_hoursUntilDone 28 = .ok (.invokevirtual 181, 3) := by decide +kernel
theorem dX8_hoursUntilDone_31 : decode cX8_hoursUntilDone 31 = .ok (.iconst 0, 1) := by decide +kernel
theorem dX8_hoursUntilDone_32 : decode cX8_hoursUntilDone 32 = .ok (.istore_n 2, 1) := by decide +kernel
theorem dX8_hoursUntilDone_33 : decode cX8_hoursUntilDone 33 = .ok (.iload_n 2, 1) := by decide +kernel
theorem dX8_hoursUntilDone_34 : decode cX8_hoursUntilDone 34 = .ok (.bipush 20, 2) := by decide +kernel
theorem dX8_hoursUntilDone_36 : decode cX8_hoursUntilDone 36 = .ok (.if_icmp .gt 38, 3) := by decide +kernel
theorem dX8_hoursUntilDone_39 : decode cX8_hoursUntilDone 39 = .ok (.aload_n 0, 1) := by decide +kernel
theorem dX8_hoursUntilDone_40 : decode cX8_hoursUntilDone 40 = .ok (.getfield 21, 3) := by decide +kernel
theorem dX8_hoursUntilDone_43 : decode cX8_hoursUntilDone 43 = .ok (.getfield 74, 3) := by decide +kernel
theorem dX8_hoursUntilDone_46 : decode cX8_hoursUntilDone 46 = .ok (.iload_n 1, 1) := by decide +kernel
theorem dX8_hoursUntilDone_47 : decode cX8_hoursUntilDone 47 = .ok (.aaload, 1) := by decide +kernel
theorem dX8_hoursUntilDone_48 : decode cX8_hoursUntilDone 48 = .ok (.invokevirtual 289, 3) := by decide +kernel
theorem dX8_hoursUntilDone_51 : decode cX8_hoursUntilDone 51 = .ok (.ifCond .eq 5, 3) := by decide +kernel
theorem dX8_hoursUntilDone_54 : decode cX8_hoursUntilDone 54 = .ok (.iload_n 2, 1) := by decide +kernel
theorem dX8_hoursUntilDone_55 : decode cX8_hoursUntilDone 55 = .ok (.ireturn, 1) := by decide +kernel
theorem dX8_hoursUntilDone_56 : decode cX8_hoursUntilDone 56 = .ok (.aload_n 0, 1) := by decide +kernel
theorem dX8_hoursUntilDone_57 : decode cX8_hoursUntilDone 57 = .ok (.aload_n 0, 1) := by decide +kernel
theorem dX8_hoursUntilDone_58 : decode cX8_hoursUntilDone 58 = .ok (.getfield 21, 3) := by decide +kernel
theorem dX8_hoursUntilDone_61 : decode cX8_hoursUntilDone 61 = .ok (.iconst 1, 1) := by decide +kernel
theorem dX8_hoursUntilDone_62 : decode cX8_hoursUntilDone 62 = .ok (.iconst 1, 1) := by decide +kernel
theorem dX8_hoursUntilDone_63 : decode cX8_hoursUntilDone 63 = .ok (.iload_n 1, 1) := by decide +kernel
theorem dX8_hoursUntilDone_64 : decode cX8_hoursUntilDone 64 = .ok (.ishl, 1) := by decide +kernel
theorem dX8_hoursUntilDone_65 : decode cX8_hoursUntilDone 65 = .ok (.invokevirtual 177, 3) := by decide +kernel
theorem dX8_hoursUntilDone_68 : decode cX8_hoursUntilDone 68 = .ok (.iinc 2 1, 3) := by decide +kernel
theorem dX8_hoursUntilDone_71 : decode cX8_hoursUntilDone 71 = .ok (.goto (-38), 3) := by decide +kernel
theorem dX8_hoursUntilDone_74 : decode cX8_hoursUntilDone 74 = .ok (.bipush (-5), 2) := by decide +kernel
theorem dX8_hoursUntilDone_76 : decode cX8_hoursUntilDone 76 = .ok (.ireturn, 1) := by decide +kernel
theorem dX8_crossable_0 : decode cX8_crossable 0 = .ok (.aload_n 0, 1) := by decide +kernel
theorem dX8_crossable_1 : decode cX8_crossable 1 = .ok (.getfield 14, 3) := by decide +kernel
theorem dX8_crossable_4 : decode cX8_crossable 4 = .ok (.getfield 74, 3) := by decide +kernel
theorem dX8_crossable_7 : decode cX8_crossable 7 = .ok (.iload_n 1, 1) := by decide +kernel
theorem dX8_crossable_8 : decode cX8_crossable 8 = .ok (.aaload, 1) := by decide +kernel
theorem dX8_crossable_9 : decode cX8_crossable 9 = .ok (.astore_n 2, 1) := by decide +kernel
theorem dX8_crossable_10 : decode cX8_crossable 10 = .ok (.aload_n 2, 1) := by decide +kernel
theorem dX8_crossable_11 : decode cX8_crossable 11 = .ok (.getfield 96, 3) := by decide +kernel
theorem dX8_crossable_14 : decode cX8_crossable 14 = .ok (.invokestatic 293, 3) := by decide +kernel
theorem dX8_crossable_17 : decode cX8_crossable 17 = .ok (.istore_n 3, 1) := by decide +kernel
theorem dX8_crossable_18 : decode cX8_crossable 18 = .ok (.iconst 0, 1) := by decide +kernel
theorem dX8_crossable_19 : decode cX8_crossable 19 = .ok (.istore 4, 2) := by decide +kernel
theorem dX8_crossable_21 : decode cX8_crossable 21 = .ok (.iconst 0, 1) := by decide +kernel
theorem dX8_crossable_22 : decode cX8_crossable 22 = .ok (.istore 5, 2) := by decide +kernel
theorem dX8_crossable_24 : decode cX8_crossable 24 = .ok (.iload 5, 2) := by decide +kernel
theorem dX8_crossable_26 : decode cX8_crossable 26 = .ok (.aload_n 0, 1) := by decide +kernel
theorem dX8_crossable_27 : decode cX8_crossable 27 = .ok (.getfield 14, 3) := by decide +kernel
theorem dX8_crossable_30 : decode cX8_crossable 30 = .ok (.getfield 195, 3) := by decide +kernel
theorem dX8_crossable_33 : decode cX8_crossable 33 = .ok (.if_icmp .ge 48, 3) := by decide +kernel
theorem dX8_crossable_36 : decode cX8_crossable 36 = .ok (.aload_n 0, 1) := by decide +kernel
theorem dX8_crossable_37 : decode cX8_crossable 37 = .ok (.getfield 14, 3) := by decide +kernel
theorem dX8_crossable_40 : decode cX8_crossable 40 = .ok (.iload 5, 2) := by decide +kernel
theorem dX8_crossable_42 : decode cX8_crossable 42 = .ok (.aload_n 2, 1) := by decide +kernel
theorem dX8_crossable_43 : decode cX8_crossable 43 = .ok (.getfield 87, 3) := by decide +kernel
theorem dX8_crossable_46 : decode cX8_crossable 46 = .ok (.invokevirtual 298, 3) := by decide +kernel
theorem dX8_crossable_49 : decode cX8_crossable 49 = .ok (.ifCond .lt 26, 3) := by decide +kernel
theorem dX8_crossable_52 : decode cX8_crossable 52 = .ok (.aload_n 0, 1) := by decide +kernel
theorem dX8_crossable_53 : decode cX8_crossable 53 = .ok (.getfield 14, 3) := by decide +kernel
theorem dX8_crossable_56 : decode cX8_crossable 56 = .ok (.iload_n 1, 1) := by decide +kernel
theorem dX8_crossable_57 : decode cX8_crossable 57 = .ok (.iload 5, 2) := by decide +kernel
theorem dX8_crossable_59 : decode cX8_crossable 59 = .ok (.iload_n 3, 1) := by decide +kernel
theorem dX8_crossable_60 : decode cX8_crossable 60 = .ok (.invokevirtual 301, 3) := by decide +kernel
theorem dX8_crossable_63 : decode cX8_crossable 63 = .ok (.ifCond .eq 12, 3) := by decide +kernel
theorem dX8_crossable_66 : decode cX8_crossable 66 = .ok (.iload 4, 2) := by decide +kernel
theorem dX8_crossable_68 : decode cX8_crossable 68 = .ok (.iconst 1, 1) := by decide +kernel
theorem dX8_crossable_69 : decode cX8_crossable 69 = .ok (.iload 5, 2) := by decide +kernel
theorem dX8_crossable_71 : decode cX8_crossable 71 = .ok (.ishl, 1) := by decide +kernel
theorem dX8_crossable_72 : decode cX8_crossable 72 = .ok (.ior, 1) := by decide +kernel
theorem dX8_crossable_73 : decode cX8_crossable 73 = .ok (.istore 4, 2) := by decide +kernel
theorem dX8_crossable_75 : decode cX8_crossable 75 = .ok (.iinc 5 1, 3) := by decide +kernel
theorem dX8_crossable_78 : decode cX8_crossable 78 = .ok (.goto (-54), 3) := by decide +kernel
theorem dX8_crossable_81 : decode cX8_crossable 81 = .ok (.iload 4, 2) := by decide +kernel
theorem dX8_crossable_83 : decode cX8_crossable 83 = .ok (.ireturn, 1) := by decide +kernel
theorem dX8_leaveNow_0 : decode cX8_leaveNow 0 = .ok (.iload_n 2, 1) := by decide +kernel
theorem dX8_leaveNow_1 : decode cX8_leaveNow 1 = .ok (.bipush 10, 2) := by decide +kernel
theorem dX8_leaveNow_3 : decode cX8_leaveNow 3 = .ok (.if_icmp .lt 14, 3) := by decide +kernel
theorem dX8_leaveNow_6 : decode cX8_leaveNow 6 = .ok (.aload_n 0, 1) := by decide +kernel
theorem dX8_leaveNow_7 : decode cX8_leaveNow 7 = .ok (.iload_n 2, 1) := by decide +kernel
theorem dX8_leaveNow_8 : decode cX8_leaveNow 8 = .ok (.bipush 10, 2) := by decide +kernel
theorem dX8_leaveNow_10 : decode cX8_leaveNow 10 = .ok (.isub, 1) := by decide +kernel
theorem dX8_leaveNow_11 : decode cX8_leaveNow 11 = .ok (.invokevirtual 113, 3) := by decide +kernel
theorem dX8_leaveNow_14 : decode cX8_leaveNow 14 = .ok (.ifCond .ne 7, 3) := by decide +kernel
theorem dX8_leaveNow_17 : decode cX8_leaveNow 17 = .ok (.sipush (-10001), 3) := by decide +kernel
theorem dX8_leaveNow_20 : decode cX8_leaveNow 20 = .ok (.ireturn, 1) := by decide +kernel
theorem dX8_leaveNow_21 : decode cX8_leaveNow 21 = .ok (.aload_n 0, 1) := by decide +kernel
theorem dX8_leaveNow_22 : decode cX8_leaveNow 22 = .ok (.getfield 14, 3) := by decide +kernel
theorem dX8_leaveNow_25 : decode cX8_leaveNow 25 = .ok (.iload_n 1, 1) := by decide +kernel
theorem dX8_leaveNow_26 : decode cX8_leaveNow 26 = .ok (.iload_n 2, 1) := by decide +kernel
theorem dX8_leaveNow_27 : decode cX8_leaveNow 27 = .ok (.bipush 10, 2) := by decide +kernel
theorem dX8_leaveNow_29 : decode cX8_leaveNow 29 = .ok (.isub, 1) := by decide +kernel
theorem dX8_leaveNow_30 : decode cX8_leaveNow 30 = .ok (.aload_n 0, 1) := by decide +kernel
theorem dX8_leaveNow_31 : decode cX8_leaveNow 31 = .ok (.getfield 14, 3) := by decide +kernel
theorem dX8_leaveNow_34 : decode cX8_leaveNow 34 = .ok (.getfield 74, 3) := by decide +kernel
theorem dX8_leaveNow_37 : decode cX8_leaveNow 37 = .ok (.iload_n 1, 1) := by decide +kernel
theorem dX8_leaveNow_38 : decode cX8_leaveNow 38 = .ok (.aaload, 1) := by decide +kernel
theorem dX8_leaveNow_39 : decode cX8_leaveNow 39 = .ok (.getfield 96, 3) := by decide +kernel
theorem dX8_leaveNow_42 : decode cX8_leaveNow 42 = .ok (.invokestatic 293, 3) := by decide +kernel
theorem dX8_leaveNow_45 : decode cX8_leaveNow 45 = .ok (.invokevirtual 305, 3) := by decide +kernel
theorem dX8_leaveNow_48 : decode cX8_leaveNow 48 = .ok (.ireturn, 1) := by decide +kernel
theorem dX8_goesAsSeen_0 : decode cX8_goesAsSeen 0 = .ok (.aload_n 0, 1) := by decide +kernel
theorem dX8_goesAsSeen_1 : decode cX8_goesAsSeen 1 = .ok (.getfield 14, 3) := by decide +kernel
theorem dX8_goesAsSeen_4 : decode cX8_goesAsSeen 4 = .ok (.getfield 198, 3) := by decide +kernel
theorem dX8_goesAsSeen_7 : decode cX8_goesAsSeen 7 = .ok (.iload_n 1, 1) := by decide +kernel
theorem dX8_goesAsSeen_8 : decode cX8_goesAsSeen 8 = .ok (.invokevirtual 308, 3) := by decide +kernel
theorem dX8_goesAsSeen_11 : decode cX8_goesAsSeen 11 = .ok (.istore_n 2, 1) := by decide +kernel
theorem dX8_goesAsSeen_12 : decode cX8_goesAsSeen 12 = .ok (.iconst 0, 1) := by decide +kernel
theorem dX8_goesAsSeen_13 : decode cX8_goesAsSeen 13 = .ok (.istore_n 3, 1) := by decide +kernel
theorem dX8_goesAsSeen_14 : decode cX8_goesAsSeen 14 = .ok (.iload_n 3, 1) := by decide +kernel
theorem dX8_goesAsSeen_15 : decode cX8_goesAsSeen 15 = .ok (.iload_n 2, 1) := by decide +kernel
theorem dX8_goesAsSeen_16 : decode cX8_goesAsSeen 16 = .ok (.if_icmp .gt 54, 3) := by decide +kernel
theorem dX8_goesAsSeen_19 : decode cX8_goesAsSeen 19 = .ok (.iload_n 3, 1) := by decide +kernel
theorem dX8_goesAsSeen_20 : decode cX8_goesAsSeen 20 = .ok (.ifCond .le 15, 3) := by decide +kernel
theorem dX8_goesAsSeen_23 : decode cX8_goesAsSeen 23 = .ok (.aload_n 0, 1) := by decide +kernel
theorem dX8_goesAsSeen_24 : decode cX8_goesAsSeen 24 = .ok (.aload_n 0, 1) := by decide +kernel
theorem dX8_goesAsSeen_25 : decode cX8_goesAsSeen 25 = .ok (.getfield 21, 3) := by decide +kernel
theorem dX8_goesAsSeen_28 : decode cX8_goesAsSeen 28 = .ok (.iconst 1, 1) := by decide +kernel
theorem dX8_goesAsSeen_29 : decode cX8_goesAsSeen 29 = .ok (.iconst 1, 1) := by decide +kernel
theorem dX8_goesAsSeen_30 : decode cX8_goesAsSeen 30 = .ok (.iload_n 1, 1) := by decide +kernel
theorem dX8_goesAsSeen_31 : decode cX8_goesAsSeen 31 = .ok (.ishl, 1) := by decide +kernel
theorem dX8_goesAsSeen_32 : decode cX8_goesAsSeen 32 = .ok (.invokevirtual 177, 3) := by decide +kernel
theorem dX8_goesAsSeen_35 : decode cX8_goesAsSeen 35 = .ok (.aload_n 0, 1) := by decide +kernel
theorem dX8_goesAsSeen_36 : decode cX8_goesAsSeen 36 = .ok (.getfield 14, 3) := by decide +kernel
theorem dX8_goesAsSeen_39 : decode cX8_goesAsSeen 39 = .ok (.getfield 198, 3) := by decide +kernel
theorem dX8_goesAsSeen_42 : decode cX8_goesAsSeen 42 = .ok (.iload_n 1, 1) := by decide +kernel
theorem dX8_goesAsSeen_43 : decode cX8_goesAsSeen 43 = .ok (.aload_n 0, 1) := by decide +kernel
theorem dX8_goesAsSeen_44 : decode cX8_goesAsSeen 44 = .ok (.getfield 21, 3) := by decide +kernel
theorem dX8_goesAsSeen_47 : decode cX8_goesAsSeen 47 = .ok (.getfield 74, 3) := by decide +kernel
theorem dX8_goesAsSeen_50 : decode cX8_goesAsSeen 50 = .ok (.iload_n 1, 1) := by decide +kernel
theorem dX8_goesAsSeen_51 : decode cX8_goesAsSeen 51 = .ok (.aaload, 1) := by decide +kernel
theorem dX8_goesAsSeen_52 : decode cX8_goesAsSeen 52 = .ok (.getfield 87, 3) := by decide +kernel
theorem dX8_goesAsSeen_55 : decode cX8_goesAsSeen 55 = .ok (.iload_n 3, 1) := by decide +kernel
theorem dX8_goesAsSeen_56 : decode cX8_goesAsSeen 56 = .ok (.invokevirtual 311, 3) := by decide +kernel
theorem dX8_goesAsSeen_59 : decode cX8_goesAsSeen 59 = .ok (.ifCond .ne 5, 3) := by decide +kernel
theorem dX8_goesAsSeen_62 : decode cX8_goesAsSeen 62 = .ok (.iconst 0, 1) := by decide +kernel
theorem dX8_goesAsSeen_63 : decode cX8_goesAsSeen 63 = .ok (.ireturn, 1) := by decide +kernel
theorem dX8_goesAsSeen_64 : decode cX8_goesAsSeen 64 = .ok (.iinc 3 1, 3) := by decide +kernel
theorem dX8_goesAsSeen_67 : decode cX8_goesAsSeen 67 = .ok (.goto (-53), 3) := by decide +kernel
theorem dX8_goesAsSeen_70 : decode cX8_goesAsSeen 70 = .ok (.iconst 1, 1) := by decide +kernel
theorem dX8_goesAsSeen_71 : decode cX8_goesAsSeen 71 = .ok (.ireturn, 1) := by decide +kernel
end
section
theorem dL_law_0 : decode cL_law 0 = .ok (.new 7, 3) := by decide +kernel
theorem dL_law_3 : decode cL_law 3 = .ok (.dup, 1) := by decide +kernel
theorem dL_law_4 : decode cL_law 4 = .ok (.invokespecial 9, 3) := by decide +kernel
theorem dL_law_7 : decode cL_law 7 = .ok (.astore_n 1, 1) := by decide +kernel
theorem dL_law_8 : decode cL_law 8 = .ok (.new 10, 3) := by decide +kernel
theorem dL_law_11 : decode cL_law 11 = .ok (.dup, 1) := by decide +kernel
theorem dL_law_12 : decode cL_law 12 = .ok (.invokespecial 12, 3) := by decide +kernel
theorem dL_law_15 : decode cL_law 15 = .ok (.astore_n 2, 1) := by decide +kernel
theorem dL_law_16 : decode cL_law 16 = .ok (.iconst 0, 1) := by decide +kernel
theorem dL_law_17 : decode cL_law 17 = .ok (.istore_n 3, 1) := by decide +kernel
theorem dL_law_18 : decode cL_law 18 = .ok (.iload_n 3, 1) := by decide +kernel
theorem dL_law_19 : decode cL_law 19 = .ok (.aload_n 0, 1) := by decide +kernel
theorem dL_law_20 : decode cL_law 20 = .ok (.arraylength, 1) := by decide +kernel
theorem dL_law_21 : decode cL_law 21 = .ok (.bipush 6, 2) := by decide +kernel
theorem dL_law_23 : decode cL_law 23 = .ok (.isub, 1) := by decide +kernel
theorem dL_law_24 : decode cL_law 24 = .ok (.if_icmp .gt 1361, 3) := by decide +kernel
theorem dL_law_27 : decode cL_law 27 = .ok (.aload_n 0, 1) := by decide +kernel
theorem dL_law_28 : decode cL_law 28 = .ok (.iload_n 3, 1) := by decide +kernel
theorem dL_law_29 : decode cL_law 29 = .ok (.iaload, 1) := by decide +kernel
theorem dL_law_30 : decode cL_law 30 = .ok (.bipush 63, 2) := by decide +kernel
theorem dL_law_32 : decode cL_law 32 = .ok (.iand, 1) := by decide +kernel
theorem dL_law_33 : decode cL_law 33 = .ok (.tableswitch 1346 0 35 #[159, 192, 235, 268, 301, 334, 367, 416, 449, 492, 515, 528, 551, 574, 607, 650, 683, 726, 749, 782, 826, 850, 883, 906, 939, 952, 985, 998, 1011, 1054, 1077, 1110, 1133, 1176, 1249, 1283], 159) := by decide +kernel
theorem dL_law_192 : decode cL_law 192 = .ok (.aload_n 1, 1) := by decide +kernel
theorem dL_law_193 : decode cL_law 193 = .ok (.aload_n 0, 1) := by decide +kernel
theorem dL_law_194 : decode cL_law 194 = .ok (.iload_n 3, 1) := by decide +kernel
theorem dL_law_195 : decode cL_law 195 = .ok (.iconst 1, 1) := by decide +kernel
theorem dL_law_196 : decode cL_law 196 = .ok (.iadd, 1) := by decide +kernel
theorem dL_law_197 : decode cL_law 197 = .ok (.iaload, 1) := by decide +kernel
theorem dL_law_198 : decode cL_law 198 = .ok (.aload_n 0, 1) := by decide +kernel
theorem dL_law_199 : decode cL_law 199 = .ok (.iload_n 3, 1) := by decide +kernel
theorem dL_law_200 : decode cL_law 200 = .ok (.iconst 2, 1) := by decide +kernel
theorem dL_law_201 : decode cL_law 201 = .ok (.iadd, 1) := by decide +kernel
theorem dL_law_202 : decode cL_law 202 = .ok (.iaload, 1) := by decide +kernel
theorem dL_law_203 : decode cL_law 203 = .ok (.invokevirtual 13, 3) := by decide +kernel
theorem dL_law_206 : decode cL_law 206 = .ok (.aload_n 2, 1) := by decide +kernel
theorem dL_law_207 : decode cL_law 207 = .ok (.aload_n 0, 1) := by decide +kernel
theorem dL_law_208 : decode cL_law 208 = .ok (.iload_n 3, 1) := by decide +kernel
theorem dL_law_209 : decode cL_law 209 = .ok (.iconst 1, 1) := by decide +kernel
theorem dL_law_210 : decode cL_law 210 = .ok (.iadd, 1) := by decide +kernel
theorem dL_law_211 : decode cL_law 211 = .ok (.iaload, 1) := by decide +kernel
theorem dL_law_212 : decode cL_law 212 = .ok (.aload_n 0, 1) := by decide +kernel
theorem dL_law_213 : decode cL_law 213 = .ok (.iload_n 3, 1) := by decide +kernel
theorem dL_law_214 : decode cL_law 214 = .ok (.iconst 2, 1) := by decide +kernel
theorem dL_law_215 : decode cL_law 215 = .ok (.iadd, 1) := by decide +kernel
theorem dL_law_216 : decode cL_law 216 = .ok (.iaload, 1) := by decide +kernel
theorem dL_law_217 : decode cL_law 217 = .ok (.invokevirtual 17, 3) := by decide +kernel
theorem dL_law_220 : decode cL_law 220 = .ok (.if_icmp .eq 1159, 3) := by decide +kernel
theorem dL_law_223 : decode cL_law 223 = .ok (.iconst 0, 1) := by decide +kernel
theorem dL_law_224 : decode cL_law 224 = .ok (.ireturn, 1) := by decide +kernel
theorem dL_law_225 : decode cL_law 225 = .ok (.aload_n 1, 1) := by decide +kernel
theorem dL_law_226 : decode cL_law 226 = .ok (.aload_n 0, 1) := by decide +kernel
theorem dL_law_227 : decode cL_law 227 = .ok (.iload_n 3, 1) := by decide +kernel
theorem dL_law_228 : decode cL_law 228 = .ok (.iconst 1, 1) := by decide +kernel
theorem dL_law_229 : decode cL_law 229 = .ok (.iadd, 1) := by decide +kernel
theorem dL_law_230 : decode cL_law 230 = .ok (.iaload, 1) := by decide +kernel
theorem dL_law_231 : decode cL_law 231 = .ok (.aload_n 0, 1) := by decide +kernel
theorem dL_law_232 : decode cL_law 232 = .ok (.iload_n 3, 1) := by decide +kernel
theorem dL_law_233 : decode cL_law 233 = .ok (.iconst 2, 1) := by decide +kernel
theorem dL_law_234 : decode cL_law 234 = .ok (.iadd, 1) := by decide +kernel
theorem dL_law_235 : decode cL_law 235 = .ok (.iaload, 1) := by decide +kernel
theorem dL_law_236 : decode cL_law 236 = .ok (.aload_n 0, 1) := by decide +kernel
theorem dL_law_237 : decode cL_law 237 = .ok (.iload_n 3, 1) := by decide +kernel
theorem dL_law_238 : decode cL_law 238 = .ok (.iconst 3, 1) := by decide +kernel
theorem dL_law_239 : decode cL_law 239 = .ok (.iadd, 1) := by decide +kernel
theorem dL_law_240 : decode cL_law 240 = .ok (.iaload, 1) := by decide +kernel
theorem dL_law_241 : decode cL_law 241 = .ok (.invokevirtual 18, 3) := by decide +kernel
theorem dL_law_244 : decode cL_law 244 = .ok (.aload_n 2, 1) := by decide +kernel
theorem dL_law_245 : decode cL_law 245 = .ok (.aload_n 0, 1) := by decide +kernel
theorem dL_law_246 : decode cL_law 246 = .ok (.iload_n 3, 1) := by decide +kernel
theorem dL_law_247 : decode cL_law 247 = .ok (.iconst 1, 1) := by decide +kernel
theorem dL_law_248 : decode cL_law 248 = .ok (.iadd, 1) := by decide +kernel
theorem dL_law_249 : decode cL_law 249 = .ok (.iaload, 1) := by decide +kernel
theorem dL_law_250 : decode cL_law 250 = .ok (.aload_n 0, 1) := by decide +kernel
theorem dL_law_251 : decode cL_law 251 = .ok (.iload_n 3, 1) := by decide +kernel
theorem dL_law_252 : decode cL_law 252 = .ok (.iconst 2, 1) := by decide +kernel
theorem dL_law_253 : decode cL_law 253 = .ok (.iadd, 1) := by decide +kernel
theorem dL_law_254 : decode cL_law 254 = .ok (.iaload, 1) := by decide +kernel
theorem dL_law_255 : decode cL_law 255 = .ok (.aload_n 0, 1) := by decide +kernel
theorem dL_law_256 : decode cL_law 256 = .ok (.iload_n 3, 1) := by decide +kernel
theorem dL_law_257 : decode cL_law 257 = .ok (.iconst 3, 1) := by decide +kernel
theorem dL_law_258 : decode cL_law 258 = .ok (.iadd, 1) := by decide +kernel
theorem dL_law_259 : decode cL_law 259 = .ok (.iaload, 1) := by decide +kernel
theorem dL_law_260 : decode cL_law 260 = .ok (.invokevirtual 22, 3) := by decide +kernel
theorem dL_law_263 : decode cL_law 263 = .ok (.if_icmp .eq 1116, 3) := by decide +kernel
theorem dL_law_266 : decode cL_law 266 = .ok (.iconst 0, 1) := by decide +kernel
theorem dL_law_267 : decode cL_law 267 = .ok (.ireturn, 1) := by decide +kernel
theorem dL_law_268 : decode cL_law 268 = .ok (.aload_n 1, 1) := by decide +kernel
theorem dL_law_269 : decode cL_law 269 = .ok (.aload_n 0, 1) := by decide +kernel
theorem dL_law_270 : decode cL_law 270 = .ok (.iload_n 3, 1) := by decide +kernel
theorem dL_law_271 : decode cL_law 271 = .ok (.iconst 1, 1) := by decide +kernel
theorem dL_law_272 : decode cL_law 272 = .ok (.iadd, 1) := by decide +kernel
theorem dL_law_273 : decode cL_law 273 = .ok (.iaload, 1) := by decide +kernel
theorem dL_law_274 : decode cL_law 274 = .ok (.aload_n 0, 1) := by decide +kernel
theorem dL_law_275 : decode cL_law 275 = .ok (.iload_n 3, 1) := by decide +kernel
theorem dL_law_276 : decode cL_law 276 = .ok (.iconst 2, 1) := by decide +kernel
theorem dL_law_277 : decode cL_law 277 = .ok (.iadd, 1) := by decide +kernel
theorem dL_law_278 : decode cL_law 278 = .ok (.iaload, 1) := by decide +kernel
theorem dL_law_279 : decode cL_law 279 = .ok (.invokevirtual 23, 3) := by decide +kernel
theorem dL_law_282 : decode cL_law 282 = .ok (.aload_n 2, 1) := by decide +kernel
theorem dL_law_283 : decode cL_law 283 = .ok (.aload_n 0, 1) := by decide +kernel
theorem dL_law_284 : decode cL_law 284 = .ok (.iload_n 3, 1) := by decide +kernel
theorem dL_law_285 : decode cL_law 285 = .ok (.iconst 1, 1) := by decide +kernel
theorem dL_law_286 : decode cL_law 286 = .ok (.iadd, 1) := by decide +kernel
theorem dL_law_287 : decode cL_law 287 = .ok (.iaload, 1) := by decide +kernel
theorem dL_law_288 : decode cL_law 288 = .ok (.aload_n 0, 1) := by decide +kernel
theorem dL_law_289 : decode cL_law 289 = .ok (.iload_n 3, 1) := by decide +kernel
theorem dL_law_290 : decode cL_law 290 = .ok (.iconst 2, 1) := by decide +kernel
theorem dL_law_291 : decode cL_law 291 = .ok (.iadd, 1) := by decide +kernel
theorem dL_law_292 : decode cL_law 292 = .ok (.iaload, 1) := by decide +kernel
theorem dL_law_293 : decode cL_law 293 = .ok (.invokevirtual 26, 3) := by decide +kernel
theorem dL_law_296 : decode cL_law 296 = .ok (.if_icmp .eq 1083, 3) := by decide +kernel
theorem dL_law_299 : decode cL_law 299 = .ok (.iconst 0, 1) := by decide +kernel
theorem dL_law_300 : decode cL_law 300 = .ok (.ireturn, 1) := by decide +kernel
theorem dL_law_301 : decode cL_law 301 = .ok (.aload_n 1, 1) := by decide +kernel
theorem dL_law_302 : decode cL_law 302 = .ok (.aload_n 0, 1) := by decide +kernel
theorem dL_law_303 : decode cL_law 303 = .ok (.iload_n 3, 1) := by decide +kernel
theorem dL_law_304 : decode cL_law 304 = .ok (.iconst 1, 1) := by decide +kernel
theorem dL_law_305 : decode cL_law 305 = .ok (.iadd, 1) := by decide +kernel
theorem dL_law_306 : decode cL_law 306 = .ok (.iaload, 1) := by decide +kernel
theorem dL_law_307 : decode cL_law 307 = .ok (.aload_n 0, 1) := by decide +kernel
theorem dL_law_308 : decode cL_law 308 = .ok (.iload_n 3, 1) := by decide +kernel
theorem dL_law_309 : decode cL_law 309 = .ok (.iconst 2, 1) := by decide +kernel
theorem dL_law_310 : decode cL_law 310 = .ok (.iadd, 1) := by decide +kernel
theorem dL_law_311 : decode cL_law 311 = .ok (.iaload, 1) := by decide +kernel
theorem dL_law_312 : decode cL_law 312 = .ok (.invokevirtual 27, 3) := by decide +kernel
theorem dL_law_315 : decode cL_law 315 = .ok (.aload_n 2, 1) := by decide +kernel
theorem dL_law_316 : decode cL_law 316 = .ok (.aload_n 0, 1) := by decide +kernel
theorem dL_law_317 : decode cL_law 317 = .ok (.iload_n 3, 1) := by decide +kernel
theorem dL_law_318 : decode cL_law 318 = .ok (.iconst 1, 1) := by decide +kernel
theorem dL_law_319 : decode cL_law 319 = .ok (.iadd, 1) := by decide +kernel
theorem dL_law_320 : decode cL_law 320 = .ok (.iaload, 1) := by decide +kernel
theorem dL_law_321 : decode cL_law 321 = .ok (.aload_n 0, 1) := by decide +kernel
theorem dL_law_322 : decode cL_law 322 = .ok (.iload_n 3, 1) := by decide +kernel
theorem dL_law_323 : decode cL_law 323 = .ok (.iconst 2, 1) := by decide +kernel
theorem dL_law_324 : decode cL_law 324 = .ok (.iadd, 1) := by decide +kernel
theorem dL_law_325 : decode cL_law 325 = .ok (.iaload, 1) := by decide +kernel
theorem dL_law_326 : decode cL_law 326 = .ok (.invokevirtual 30, 3) := by decide +kernel
theorem dL_law_329 : decode cL_law 329 = .ok (.if_icmp .eq 1050, 3) := by decide +kernel
theorem dL_law_332 : decode cL_law 332 = .ok (.iconst 0, 1) := by decide +kernel
theorem dL_law_333 : decode cL_law 333 = .ok (.ireturn, 1) := by decide +kernel
theorem dL_law_334 : decode cL_law 334 = .ok (.aload_n 1, 1) := by decide +kernel
theorem dL_law_335 : decode cL_law 335 = .ok (.aload_n 0, 1) := by decide +kernel
theorem dL_law_336 : decode cL_law 336 = .ok (.iload_n 3, 1) := by decide +kernel
theorem dL_law_337 : decode cL_law 337 = .ok (.iconst 1, 1) := by decide +kernel
theorem dL_law_338 : decode cL_law 338 = .ok (.iadd, 1) := by decide +kernel
theorem dL_law_339 : decode cL_law 339 = .ok (.iaload, 1) := by decide +kernel
theorem dL_law_340 : decode cL_law 340 = .ok (.aload_n 0, 1) := by decide +kernel
theorem dL_law_341 : decode cL_law 341 = .ok (.iload_n 3, 1) := by decide +kernel
theorem dL_law_342 : decode cL_law 342 = .ok (.iconst 2, 1) := by decide +kernel
theorem dL_law_343 : decode cL_law 343 = .ok (.iadd, 1) := by decide +kernel
theorem dL_law_344 : decode cL_law 344 = .ok (.iaload, 1) := by decide +kernel
theorem dL_law_345 : decode cL_law 345 = .ok (.invokevirtual 31, 3) := by decide +kernel
theorem dL_law_348 : decode cL_law 348 = .ok (.aload_n 2, 1) := by decide +kernel
theorem dL_law_349 : decode cL_law 349 = .ok (.aload_n 0, 1) := by decide +kernel
theorem dL_law_350 : decode cL_law 350 = .ok (.iload_n 3, 1) := by decide +kernel
theorem dL_law_351 : decode cL_law 351 = .ok (.iconst 1, 1) := by decide +kernel
theorem dL_law_352 : decode cL_law 352 = .ok (.iadd, 1) := by decide +kernel
theorem dL_law_353 : decode cL_law 353 = .ok (.iaload, 1) := by decide +kernel
theorem dL_law_354 : decode cL_law 354 = .ok (.aload_n 0, 1) := by decide +kernel
theorem dL_law_355 : decode cL_law 355 = .ok (.iload_n 3, 1) := by decide +kernel
theorem dL_law_356 : decode cL_law 356 = .ok (.iconst 2, 1) := by decide +kernel
theorem dL_law_357 : decode cL_law 357 = .ok (.iadd, 1) := by decide +kernel
theorem dL_law_358 : decode cL_law 358 = .ok (.iaload, 1) := by decide +kernel
theorem dL_law_359 : decode cL_law 359 = .ok (.invokevirtual 34, 3) := by decide +kernel
theorem dL_law_362 : decode cL_law 362 = .ok (.if_icmp .eq 1017, 3) := by decide +kernel
theorem dL_law_365 : decode cL_law 365 = .ok (.iconst 0, 1) := by decide +kernel
theorem dL_law_366 : decode cL_law 366 = .ok (.ireturn, 1) := by decide +kernel
theorem dL_law_367 : decode cL_law 367 = .ok (.aload_n 1, 1) := by decide +kernel
theorem dL_law_368 : decode cL_law 368 = .ok (.aload_n 0, 1) := by decide +kernel
theorem dL_law_369 : decode cL_law 369 = .ok (.iload_n 3, 1) := by decide +kernel
theorem dL_law_370 : decode cL_law 370 = .ok (.iconst 1, 1) := by decide +kernel
theorem dL_law_371 : decode cL_law 371 = .ok (.iadd, 1) := by decide +kernel
theorem dL_law_372 : decode cL_law 372 = .ok (.iaload, 1) := by decide +kernel
theorem dL_law_373 : decode cL_law 373 = .ok (.aload_n 0, 1) := by decide +kernel
theorem dL_law_374 : decode cL_law 374 = .ok (.iload_n 3, 1) := by decide +kernel
theorem dL_law_375 : decode cL_law 375 = .ok (.iconst 2, 1) := by decide +kernel
theorem dL_law_376 : decode cL_law 376 = .ok (.iadd, 1) := by decide +kernel
theorem dL_law_377 : decode cL_law 377 = .ok (.iaload, 1) := by decide +kernel
theorem dL_law_378 : decode cL_law 378 = .ok (.invokevirtual 35, 3) := by decide +kernel
theorem dL_law_381 : decode cL_law 381 = .ok (.aload_n 2, 1) := by decide +kernel
theorem dL_law_382 : decode cL_law 382 = .ok (.aload_n 0, 1) := by decide +kernel
theorem dL_law_383 : decode cL_law 383 = .ok (.iload_n 3, 1) := by decide +kernel
theorem dL_law_384 : decode cL_law 384 = .ok (.iconst 1, 1) := by decide +kernel
theorem dL_law_385 : decode cL_law 385 = .ok (.iadd, 1) := by decide +kernel
theorem dL_law_386 : decode cL_law 386 = .ok (.iaload, 1) := by decide +kernel
theorem dL_law_387 : decode cL_law 387 = .ok (.aload_n 0, 1) := by decide +kernel
theorem dL_law_388 : decode cL_law 388 = .ok (.iload_n 3, 1) := by decide +kernel
theorem dL_law_389 : decode cL_law 389 = .ok (.iconst 2, 1) := by decide +kernel
theorem dL_law_390 : decode cL_law 390 = .ok (.iadd, 1) := by decide +kernel
theorem dL_law_391 : decode cL_law 391 = .ok (.iaload, 1) := by decide +kernel
theorem dL_law_392 : decode cL_law 392 = .ok (.invokevirtual 38, 3) := by decide +kernel
theorem dL_law_395 : decode cL_law 395 = .ok (.if_icmp .eq 984, 3) := by decide +kernel
theorem dL_law_398 : decode cL_law 398 = .ok (.iconst 0, 1) := by decide +kernel
theorem dL_law_399 : decode cL_law 399 = .ok (.ireturn, 1) := by decide +kernel
theorem dL_law_400 : decode cL_law 400 = .ok (.aload_n 1, 1) := by decide +kernel
theorem dL_law_401 : decode cL_law 401 = .ok (.aload_n 0, 1) := by decide +kernel
theorem dL_law_402 : decode cL_law 402 = .ok (.iload_n 3, 1) := by decide +kernel
theorem dL_law_403 : decode cL_law 403 = .ok (.iconst 1, 1) := by decide +kernel
theorem dL_law_404 : decode cL_law 404 = .ok (.iadd, 1) := by decide +kernel
theorem dL_law_405 : decode cL_law 405 = .ok (.iaload, 1) := by decide +kernel
theorem dL_law_406 : decode cL_law 406 = .ok (.aload_n 0, 1) := by decide +kernel
theorem dL_law_407 : decode cL_law 407 = .ok (.iload_n 3, 1) := by decide +kernel
theorem dL_law_408 : decode cL_law 408 = .ok (.iconst 2, 1) := by decide +kernel
theorem dL_law_409 : decode cL_law 409 = .ok (.iadd, 1) := by decide +kernel
theorem dL_law_410 : decode cL_law 410 = .ok (.iaload, 1) := by decide +kernel
theorem dL_law_411 : decode cL_law 411 = .ok (.ifCond .eq 7, 3) := by decide +kernel
theorem dL_law_414 : decode cL_law 414 = .ok (.iconst 1, 1) := by decide +kernel
theorem dL_law_415 : decode cL_law 415 = .ok (.goto 4, 3) := by decide +kernel
theorem dL_law_418 : decode cL_law 418 = .ok (.iconst 0, 1) := by decide +kernel
theorem dL_law_419 : decode cL_law 419 = .ok (.invokevirtual 39, 3) := by decide +kernel
theorem dL_law_422 : decode cL_law 422 = .ok (.aload_n 2, 1) := by decide +kernel
theorem dL_law_423 : decode cL_law 423 = .ok (.aload_n 0, 1) := by decide +kernel
theorem dL_law_424 : decode cL_law 424 = .ok (.iload_n 3, 1) := by decide +kernel
theorem dL_law_425 : decode cL_law 425 = .ok (.iconst 1, 1) := by decide +kernel
theorem dL_law_426 : decode cL_law 426 = .ok (.iadd, 1) := by decide +kernel
theorem dL_law_427 : decode cL_law 427 = .ok (.iaload, 1) := by decide +kernel
theorem dL_law_428 : decode cL_law 428 = .ok (.aload_n 0, 1) := by decide +kernel
theorem dL_law_429 : decode cL_law 429 = .ok (.iload_n 3, 1) := by decide +kernel
theorem dL_law_430 : decode cL_law 430 = .ok (.iconst 2, 1) := by decide +kernel
theorem dL_law_431 : decode cL_law 431 = .ok (.iadd, 1) := by decide +kernel
theorem dL_law_432 : decode cL_law 432 = .ok (.iaload, 1) := by decide +kernel
theorem dL_law_433 : decode cL_law 433 = .ok (.ifCond .eq 7, 3) := by decide +kernel
theorem dL_law_436 : decode cL_law 436 = .ok (.iconst 1, 1) := by decide +kernel
theorem dL_law_437 : decode cL_law 437 = .ok (.goto 4, 3) := by decide +kernel
theorem dL_law_440 : decode cL_law 440 = .ok (.iconst 0, 1) := by decide +kernel
theorem dL_law_441 : decode cL_law 441 = .ok (.invokevirtual 43, 3) := by decide +kernel
theorem dL_law_444 : decode cL_law 444 = .ok (.if_icmp .eq 935, 3) := by decide +kernel
theorem dL_law_447 : decode cL_law 447 = .ok (.iconst 0, 1) := by decide +kernel
theorem dL_law_448 : decode cL_law 448 = .ok (.ireturn, 1) := by decide +kernel
theorem dL_law_449 : decode cL_law 449 = .ok (.aload_n 1, 1) := by decide +kernel
theorem dL_law_450 : decode cL_law 450 = .ok (.aload_n 0, 1) := by decide +kernel
theorem dL_law_451 : decode cL_law 451 = .ok (.iload_n 3, 1) := by decide +kernel
theorem dL_law_452 : decode cL_law 452 = .ok (.iconst 1, 1) := by decide +kernel
theorem dL_law_453 : decode cL_law 453 = .ok (.iadd, 1) := by decide +kernel
theorem dL_law_454 : decode cL_law 454 = .ok (.iaload, 1) := by decide +kernel
theorem dL_law_455 : decode cL_law 455 = .ok (.aload_n 0, 1) := by decide +kernel
theorem dL_law_456 : decode cL_law 456 = .ok (.iload_n 3, 1) := by decide +kernel
theorem dL_law_457 : decode cL_law 457 = .ok (.iconst 2, 1) := by decide +kernel
theorem dL_law_458 : decode cL_law 458 = .ok (.iadd, 1) := by decide +kernel
theorem dL_law_459 : decode cL_law 459 = .ok (.iaload, 1) := by decide +kernel
theorem dL_law_460 : decode cL_law 460 = .ok (.invokevirtual 44, 3) := by decide +kernel
theorem dL_law_463 : decode cL_law 463 = .ok (.aload_n 2, 1) := by decide +kernel
theorem dL_law_464 : decode cL_law 464 = .ok (.aload_n 0, 1) := by decide +kernel
theorem dL_law_465 : decode cL_law 465 = .ok (.iload_n 3, 1) := by decide +kernel
theorem dL_law_466 : decode cL_law 466 = .ok (.iconst 1, 1) := by decide +kernel
theorem dL_law_467 : decode cL_law 467 = .ok (.iadd, 1) := by decide +kernel
theorem dL_law_468 : decode cL_law 468 = .ok (.iaload, 1) := by decide +kernel
theorem dL_law_469 : decode cL_law 469 = .ok (.aload_n 0, 1) := by decide +kernel
theorem dL_law_470 : decode cL_law 470 = .ok (.iload_n 3, 1) := by decide +kernel
theorem dL_law_471 : decode cL_law 471 = .ok (.iconst 2, 1) := by decide +kernel
theorem dL_law_472 : decode cL_law 472 = .ok (.iadd, 1) := by decide +kernel
theorem dL_law_473 : decode cL_law 473 = .ok (.iaload, 1) := by decide +kernel
theorem dL_law_474 : decode cL_law 474 = .ok (.invokevirtual 47, 3) := by decide +kernel
theorem dL_law_477 : decode cL_law 477 = .ok (.if_icmp .eq 902, 3) := by decide +kernel
theorem dL_law_480 : decode cL_law 480 = .ok (.iconst 0, 1) := by decide +kernel
theorem dL_law_481 : decode cL_law 481 = .ok (.ireturn, 1) := by decide +kernel
theorem dL_law_482 : decode cL_law 482 = .ok (.aload_n 1, 1) := by decide +kernel
theorem dL_law_483 : decode cL_law 483 = .ok (.aload_n 0, 1) := by decide +kernel
theorem dL_law_484 : decode cL_law 484 = .ok (.iload_n 3, 1) := by decide +kernel
theorem dL_law_485 : decode cL_law 485 = .ok (.iconst 1, 1) := by decide +kernel
theorem dL_law_486 : decode cL_law 486 = .ok (.iadd, 1) := by decide +kernel
theorem dL_law_487 : decode cL_law 487 = .ok (.iaload, 1) := by decide +kernel
theorem dL_law_488 : decode cL_law 488 = .ok (.aload_n 0, 1) := by decide +kernel
theorem dL_law_489 : decode cL_law 489 = .ok (.iload_n 3, 1) := by decide +kernel
theorem dL_law_490 : decode cL_law 490 = .ok (.iconst 2, 1) := by decide +kernel
theorem dL_law_491 : decode cL_law 491 = .ok (.iadd, 1) := by decide +kernel
theorem dL_law_492 : decode cL_law 492 = .ok (.iaload, 1) := by decide +kernel
theorem dL_law_493 : decode cL_law 493 = .ok (.aload_n 0, 1) := by decide +kernel
theorem dL_law_494 : decode cL_law 494 = .ok (.iload_n 3, 1) := by decide +kernel
theorem dL_law_495 : decode cL_law 495 = .ok (.iconst 3, 1) := by decide +kernel
theorem dL_law_496 : decode cL_law 496 = .ok (.iadd, 1) := by decide +kernel
theorem dL_law_497 : decode cL_law 497 = .ok (.iaload, 1) := by decide +kernel
theorem dL_law_498 : decode cL_law 498 = .ok (.invokevirtual 48, 3) := by decide +kernel
theorem dL_law_501 : decode cL_law 501 = .ok (.aload_n 2, 1) := by decide +kernel
theorem dL_law_502 : decode cL_law 502 = .ok (.aload_n 0, 1) := by decide +kernel
theorem dL_law_503 : decode cL_law 503 = .ok (.iload_n 3, 1) := by decide +kernel
theorem dL_law_504 : decode cL_law 504 = .ok (.iconst 1, 1) := by decide +kernel
theorem dL_law_505 : decode cL_law 505 = .ok (.iadd, 1) := by decide +kernel
theorem dL_law_506 : decode cL_law 506 = .ok (.iaload, 1) := by decide +kernel
theorem dL_law_507 : decode cL_law 507 = .ok (.aload_n 0, 1) := by decide +kernel
theorem dL_law_508 : decode cL_law 508 = .ok (.iload_n 3, 1) := by decide +kernel
theorem dL_law_509 : decode cL_law 509 = .ok (.iconst 2, 1) := by decide +kernel
theorem dL_law_510 : decode cL_law 510 = .ok (.iadd, 1) := by decide +kernel
theorem dL_law_511 : decode cL_law 511 = .ok (.iaload, 1) := by decide +kernel
theorem dL_law_512 : decode cL_law 512 = .ok (.aload_n 0, 1) := by decide +kernel
theorem dL_law_513 : decode cL_law 513 = .ok (.iload_n 3, 1) := by decide +kernel
theorem dL_law_514 : decode cL_law 514 = .ok (.iconst 3, 1) := by decide +kernel
theorem dL_law_515 : decode cL_law 515 = .ok (.iadd, 1) := by decide +kernel
theorem dL_law_516 : decode cL_law 516 = .ok (.iaload, 1) := by decide +kernel
theorem dL_law_517 : decode cL_law 517 = .ok (.invokevirtual 51, 3) := by decide +kernel
theorem dL_law_520 : decode cL_law 520 = .ok (.if_icmp .eq 859, 3) := by decide +kernel
theorem dL_law_523 : decode cL_law 523 = .ok (.iconst 0, 1) := by decide +kernel
theorem dL_law_524 : decode cL_law 524 = .ok (.ireturn, 1) := by decide +kernel
theorem dL_law_525 : decode cL_law 525 = .ok (.aload_n 1, 1) := by decide +kernel
theorem dL_law_526 : decode cL_law 526 = .ok (.aload_n 0, 1) := by decide +kernel
theorem dL_law_527 : decode cL_law 527 = .ok (.iload_n 3, 1) := by decide +kernel
theorem dL_law_528 : decode cL_law 528 = .ok (.iconst 1, 1) := by decide +kernel
theorem dL_law_529 : decode cL_law 529 = .ok (.iadd, 1) := by decide +kernel
theorem dL_law_530 : decode cL_law 530 = .ok (.iaload, 1) := by decide +kernel
theorem dL_law_531 : decode cL_law 531 = .ok (.invokevirtual 52, 3) := by decide +kernel
theorem dL_law_534 : decode cL_law 534 = .ok (.aload_n 2, 1) := by decide +kernel
theorem dL_law_535 : decode cL_law 535 = .ok (.aload_n 0, 1) := by decide +kernel
theorem dL_law_536 : decode cL_law 536 = .ok (.iload_n 3, 1) := by decide +kernel
theorem dL_law_537 : decode cL_law 537 = .ok (.iconst 1, 1) := by decide +kernel
theorem dL_law_538 : decode cL_law 538 = .ok (.iadd, 1) := by decide +kernel
theorem dL_law_539 : decode cL_law 539 = .ok (.iaload, 1) := by decide +kernel
theorem dL_law_540 : decode cL_law 540 = .ok (.invokevirtual 56, 3) := by decide +kernel
theorem dL_law_543 : decode cL_law 543 = .ok (.if_icmp .eq 836, 3) := by decide +kernel
theorem dL_law_546 : decode cL_law 546 = .ok (.iconst 0, 1) := by decide +kernel
theorem dL_law_547 : decode cL_law 547 = .ok (.ireturn, 1) := by decide +kernel
theorem dL_law_548 : decode cL_law 548 = .ok (.aload_n 1, 1) := by decide +kernel
theorem dL_law_549 : decode cL_law 549 = .ok (.invokevirtual 57, 3) := by decide +kernel
theorem dL_law_552 : decode cL_law 552 = .ok (.aload_n 2, 1) := by decide +kernel
theorem dL_law_553 : decode cL_law 553 = .ok (.invokevirtual 61, 3) := by decide +kernel
theorem dL_law_556 : decode cL_law 556 = .ok (.if_icmp .eq 823, 3) := by decide +kernel
theorem dL_law_559 : decode cL_law 559 = .ok (.iconst 0, 1) := by decide +kernel
theorem dL_law_560 : decode cL_law 560 = .ok (.ireturn, 1) := by decide +kernel
theorem dL_law_561 : decode cL_law 561 = .ok (.aload_n 1, 1) := by decide +kernel
theorem dL_law_562 : decode cL_law 562 = .ok (.aload_n 0, 1) := by decide +kernel
theorem dL_law_563 : decode cL_law 563 = .ok (.iload_n 3, 1) := by decide +kernel
theorem dL_law_564 : decode cL_law 564 = .ok (.iconst 1, 1) := by decide +kernel
theorem dL_law_565 : decode cL_law 565 = .ok (.iadd, 1) := by decide +kernel
theorem dL_law_566 : decode cL_law 566 = .ok (.iaload, 1) := by decide +kernel
theorem dL_law_567 : decode cL_law 567 = .ok (.invokevirtual 62, 3) := by decide +kernel
theorem dL_law_570 : decode cL_law 570 = .ok (.aload_n 2, 1) := by decide +kernel
theorem dL_law_571 : decode cL_law 571 = .ok (.aload_n 0, 1) := by decide +kernel
theorem dL_law_572 : decode cL_law 572 = .ok (.iload_n 3, 1) := by decide +kernel
theorem dL_law_573 : decode cL_law 573 = .ok (.iconst 1, 1) := by decide +kernel
theorem dL_law_574 : decode cL_law 574 = .ok (.iadd, 1) := by decide +kernel
theorem dL_law_575 : decode cL_law 575 = .ok (.iaload, 1) := by decide +kernel
theorem dL_law_576 : decode cL_law 576 = .ok (.invokevirtual 65, 3) := by decide +kernel
theorem dL_law_579 : decode cL_law 579 = .ok (.if_icmp .eq 800, 3) := by decide +kernel
theorem dL_law_582 : decode cL_law 582 = .ok (.iconst 0, 1) := by decide +kernel
theorem dL_law_583 : decode cL_law 583 = .ok (.ireturn, 1) := by decide +kernel
theorem dL_law_584 : decode cL_law 584 = .ok (.aload_n 1, 1) := by decide +kernel
theorem dL_law_585 : decode cL_law 585 = .ok (.aload_n 0, 1) := by decide +kernel
theorem dL_law_586 : decode cL_law 586 = .ok (.iload_n 3, 1) := by decide +kernel
theorem dL_law_587 : decode cL_law 587 = .ok (.iconst 1, 1) := by decide +kernel
theorem dL_law_588 : decode cL_law 588 = .ok (.iadd, 1) := by decide +kernel
theorem dL_law_589 : decode cL_law 589 = .ok (.iaload, 1) := by decide +kernel
theorem dL_law_590 : decode cL_law 590 = .ok (.invokevirtual 66, 3) := by decide +kernel
theorem dL_law_593 : decode cL_law 593 = .ok (.aload_n 2, 1) := by decide +kernel
theorem dL_law_594 : decode cL_law 594 = .ok (.aload_n 0, 1) := by decide +kernel
theorem dL_law_595 : decode cL_law 595 = .ok (.iload_n 3, 1) := by decide +kernel
theorem dL_law_596 : decode cL_law 596 = .ok (.iconst 1, 1) := by decide +kernel
theorem dL_law_597 : decode cL_law 597 = .ok (.iadd, 1) := by decide +kernel
theorem dL_law_598 : decode cL_law 598 = .ok (.iaload, 1) := by decide +kernel
theorem dL_law_599 : decode cL_law 599 = .ok (.invokevirtual 69, 3) := by decide +kernel
theorem dL_law_602 : decode cL_law 602 = .ok (.if_icmp .eq 777, 3) := by decide +kernel
theorem dL_law_605 : decode cL_law 605 = .ok (.iconst 0, 1) := by decide +kernel
theorem dL_law_606 : decode cL_law 606 = .ok (.ireturn, 1) := by decide +kernel
theorem dL_law_607 : decode cL_law 607 = .ok (.aload_n 1, 1) := by decide +kernel
theorem dL_law_608 : decode cL_law 608 = .ok (.aload_n 0, 1) := by decide +kernel
theorem dL_law_609 : decode cL_law 609 = .ok (.iload_n 3, 1) := by decide +kernel
theorem dL_law_610 : decode cL_law 610 = .ok (.iconst 1, 1) := by decide +kernel
theorem dL_law_611 : decode cL_law 611 = .ok (.iadd, 1) := by decide +kernel
theorem dL_law_612 : decode cL_law 612 = .ok (.iaload, 1) := by decide +kernel
theorem dL_law_613 : decode cL_law 613 = .ok (.aload_n 0, 1) := by decide +kernel
theorem dL_law_614 : decode cL_law 614 = .ok (.iload_n 3, 1) := by decide +kernel
theorem dL_law_615 : decode cL_law 615 = .ok (.iconst 2, 1) := by decide +kernel
theorem dL_law_616 : decode cL_law 616 = .ok (.iadd, 1) := by decide +kernel
theorem dL_law_617 : decode cL_law 617 = .ok (.iaload, 1) := by decide +kernel
theorem dL_law_618 : decode cL_law 618 = .ok (.invokevirtual 70, 3) := by decide +kernel
theorem dL_law_621 : decode cL_law 621 = .ok (.aload_n 2, 1) := by decide +kernel
theorem dL_law_622 : decode cL_law 622 = .ok (.aload_n 0, 1) := by decide +kernel
theorem dL_law_623 : decode cL_law 623 = .ok (.iload_n 3, 1) := by decide +kernel
theorem dL_law_624 : decode cL_law 624 = .ok (.iconst 1, 1) := by decide +kernel
theorem dL_law_625 : decode cL_law 625 = .ok (.iadd, 1) := by decide +kernel
theorem dL_law_626 : decode cL_law 626 = .ok (.iaload, 1) := by decide +kernel
theorem dL_law_627 : decode cL_law 627 = .ok (.aload_n 0, 1) := by decide +kernel
theorem dL_law_628 : decode cL_law 628 = .ok (.iload_n 3, 1) := by decide +kernel
theorem dL_law_629 : decode cL_law 629 = .ok (.iconst 2, 1) := by decide +kernel
theorem dL_law_630 : decode cL_law 630 = .ok (.iadd, 1) := by decide +kernel
theorem dL_law_631 : decode cL_law 631 = .ok (.iaload, 1) := by decide +kernel
theorem dL_law_632 : decode cL_law 632 = .ok (.invokevirtual 73, 3) := by decide +kernel
theorem dL_law_635 : decode cL_law 635 = .ok (.if_icmp .eq 744, 3) := by decide +kernel
theorem dL_law_638 : decode cL_law 638 = .ok (.iconst 0, 1) := by decide +kernel
theorem dL_law_639 : decode cL_law 639 = .ok (.ireturn, 1) := by decide +kernel
theorem dL_law_640 : decode cL_law 640 = .ok (.aload_n 1, 1) := by decide +kernel
theorem dL_law_641 : decode cL_law 641 = .ok (.aload_n 0, 1) := by decide +kernel
theorem dL_law_642 : decode cL_law 642 = .ok (.iload_n 3, 1) := by decide +kernel
theorem dL_law_643 : decode cL_law 643 = .ok (.iconst 1, 1) := by decide +kernel
theorem dL_law_644 : decode cL_law 644 = .ok (.iadd, 1) := by decide +kernel
theorem dL_law_645 : decode cL_law 645 = .ok (.iaload, 1) := by decide +kernel
theorem dL_law_646 : decode cL_law 646 = .ok (.aload_n 0, 1) := by decide +kernel
theorem dL_law_647 : decode cL_law 647 = .ok (.iload_n 3, 1) := by decide +kernel
theorem dL_law_648 : decode cL_law 648 = .ok (.iconst 2, 1) := by decide +kernel
theorem dL_law_649 : decode cL_law 649 = .ok (.iadd, 1) := by decide +kernel
theorem dL_law_650 : decode cL_law 650 = .ok (.iaload, 1) := by decide +kernel
theorem dL_law_651 : decode cL_law 651 = .ok (.aload_n 0, 1) := by decide +kernel
theorem dL_law_652 : decode cL_law 652 = .ok (.iload_n 3, 1) := by decide +kernel
theorem dL_law_653 : decode cL_law 653 = .ok (.iconst 3, 1) := by decide +kernel
theorem dL_law_654 : decode cL_law 654 = .ok (.iadd, 1) := by decide +kernel
theorem dL_law_655 : decode cL_law 655 = .ok (.iaload, 1) := by decide +kernel
theorem dL_law_656 : decode cL_law 656 = .ok (.invokevirtual 74, 3) := by decide +kernel
theorem dL_law_659 : decode cL_law 659 = .ok (.aload_n 2, 1) := by decide +kernel
theorem dL_law_660 : decode cL_law 660 = .ok (.aload_n 0, 1) := by decide +kernel
theorem dL_law_661 : decode cL_law 661 = .ok (.iload_n 3, 1) := by decide +kernel
theorem dL_law_662 : decode cL_law 662 = .ok (.iconst 1, 1) := by decide +kernel
theorem dL_law_663 : decode cL_law 663 = .ok (.iadd, 1) := by decide +kernel
theorem dL_law_664 : decode cL_law 664 = .ok (.iaload, 1) := by decide +kernel
theorem dL_law_665 : decode cL_law 665 = .ok (.aload_n 0, 1) := by decide +kernel
theorem dL_law_666 : decode cL_law 666 = .ok (.iload_n 3, 1) := by decide +kernel
theorem dL_law_667 : decode cL_law 667 = .ok (.iconst 2, 1) := by decide +kernel
theorem dL_law_668 : decode cL_law 668 = .ok (.iadd, 1) := by decide +kernel
theorem dL_law_669 : decode cL_law 669 = .ok (.iaload, 1) := by decide +kernel
theorem dL_law_670 : decode cL_law 670 = .ok (.aload_n 0, 1) := by decide +kernel
theorem dL_law_671 : decode cL_law 671 = .ok (.iload_n 3, 1) := by decide +kernel
theorem dL_law_672 : decode cL_law 672 = .ok (.iconst 3, 1) := by decide +kernel
theorem dL_law_673 : decode cL_law 673 = .ok (.iadd, 1) := by decide +kernel
theorem dL_law_674 : decode cL_law 674 = .ok (.iaload, 1) := by decide +kernel
theorem dL_law_675 : decode cL_law 675 = .ok (.invokevirtual 77, 3) := by decide +kernel
theorem dL_law_678 : decode cL_law 678 = .ok (.if_icmp .eq 701, 3) := by decide +kernel
theorem dL_law_681 : decode cL_law 681 = .ok (.iconst 0, 1) := by decide +kernel
theorem dL_law_682 : decode cL_law 682 = .ok (.ireturn, 1) := by decide +kernel
theorem dL_law_683 : decode cL_law 683 = .ok (.aload_n 1, 1) := by decide +kernel
theorem dL_law_684 : decode cL_law 684 = .ok (.aload_n 0, 1) := by decide +kernel
theorem dL_law_685 : decode cL_law 685 = .ok (.iload_n 3, 1) := by decide +kernel
theorem dL_law_686 : decode cL_law 686 = .ok (.iconst 1, 1) := by decide +kernel
theorem dL_law_687 : decode cL_law 687 = .ok (.iadd, 1) := by decide +kernel
theorem dL_law_688 : decode cL_law 688 = .ok (.iaload, 1) := by decide +kernel
theorem dL_law_689 : decode cL_law 689 = .ok (.aload_n 0, 1) := by decide +kernel
theorem dL_law_690 : decode cL_law 690 = .ok (.iload_n 3, 1) := by decide +kernel
theorem dL_law_691 : decode cL_law 691 = .ok (.iconst 2, 1) := by decide +kernel
theorem dL_law_692 : decode cL_law 692 = .ok (.iadd, 1) := by decide +kernel
theorem dL_law_693 : decode cL_law 693 = .ok (.iaload, 1) := by decide +kernel
theorem dL_law_694 : decode cL_law 694 = .ok (.invokevirtual 78, 3) := by decide +kernel
theorem dL_law_697 : decode cL_law 697 = .ok (.aload_n 2, 1) := by decide +kernel
theorem dL_law_698 : decode cL_law 698 = .ok (.aload_n 0, 1) := by decide +kernel
theorem dL_law_699 : decode cL_law 699 = .ok (.iload_n 3, 1) := by decide +kernel
theorem dL_law_700 : decode cL_law 700 = .ok (.iconst 1, 1) := by decide +kernel
theorem dL_law_701 : decode cL_law 701 = .ok (.iadd, 1) := by decide +kernel
theorem dL_law_702 : decode cL_law 702 = .ok (.iaload, 1) := by decide +kernel
theorem dL_law_703 : decode cL_law 703 = .ok (.aload_n 0, 1) := by decide +kernel
theorem dL_law_704 : decode cL_law 704 = .ok (.iload_n 3, 1) := by decide +kernel
theorem dL_law_705 : decode cL_law 705 = .ok (.iconst 2, 1) := by decide +kernel
theorem dL_law_706 : decode cL_law 706 = .ok (.iadd, 1) := by decide +kernel
theorem dL_law_707 : decode cL_law 707 = .ok (.iaload, 1) := by decide +kernel
theorem dL_law_708 : decode cL_law 708 = .ok (.invokevirtual 81, 3) := by decide +kernel
theorem dL_law_711 : decode cL_law 711 = .ok (.if_icmp .eq 668, 3) := by decide +kernel
theorem dL_law_714 : decode cL_law 714 = .ok (.iconst 0, 1) := by decide +kernel
theorem dL_law_715 : decode cL_law 715 = .ok (.ireturn, 1) := by decide +kernel
theorem dL_law_716 : decode cL_law 716 = .ok (.aload_n 1, 1) := by decide +kernel
theorem dL_law_717 : decode cL_law 717 = .ok (.aload_n 0, 1) := by decide +kernel
theorem dL_law_718 : decode cL_law 718 = .ok (.iload_n 3, 1) := by decide +kernel
theorem dL_law_719 : decode cL_law 719 = .ok (.iconst 1, 1) := by decide +kernel
theorem dL_law_720 : decode cL_law 720 = .ok (.iadd, 1) := by decide +kernel
theorem dL_law_721 : decode cL_law 721 = .ok (.iaload, 1) := by decide +kernel
theorem dL_law_722 : decode cL_law 722 = .ok (.aload_n 0, 1) := by decide +kernel
theorem dL_law_723 : decode cL_law 723 = .ok (.iload_n 3, 1) := by decide +kernel
theorem dL_law_724 : decode cL_law 724 = .ok (.iconst 2, 1) := by decide +kernel
theorem dL_law_725 : decode cL_law 725 = .ok (.iadd, 1) := by decide +kernel
theorem dL_law_726 : decode cL_law 726 = .ok (.iaload, 1) := by decide +kernel
theorem dL_law_727 : decode cL_law 727 = .ok (.aload_n 0, 1) := by decide +kernel
theorem dL_law_728 : decode cL_law 728 = .ok (.iload_n 3, 1) := by decide +kernel
theorem dL_law_729 : decode cL_law 729 = .ok (.iconst 3, 1) := by decide +kernel
theorem dL_law_730 : decode cL_law 730 = .ok (.iadd, 1) := by decide +kernel
theorem dL_law_731 : decode cL_law 731 = .ok (.iaload, 1) := by decide +kernel
theorem dL_law_732 : decode cL_law 732 = .ok (.invokevirtual 82, 3) := by decide +kernel
theorem dL_law_735 : decode cL_law 735 = .ok (.aload_n 2, 1) := by decide +kernel
theorem dL_law_736 : decode cL_law 736 = .ok (.aload_n 0, 1) := by decide +kernel
theorem dL_law_737 : decode cL_law 737 = .ok (.iload_n 3, 1) := by decide +kernel
theorem dL_law_738 : decode cL_law 738 = .ok (.iconst 1, 1) := by decide +kernel
theorem dL_law_739 : decode cL_law 739 = .ok (.iadd, 1) := by decide +kernel
theorem dL_law_740 : decode cL_law 740 = .ok (.iaload, 1) := by decide +kernel
theorem dL_law_741 : decode cL_law 741 = .ok (.aload_n 0, 1) := by decide +kernel
theorem dL_law_742 : decode cL_law 742 = .ok (.iload_n 3, 1) := by decide +kernel
theorem dL_law_743 : decode cL_law 743 = .ok (.iconst 2, 1) := by decide +kernel
theorem dL_law_744 : decode cL_law 744 = .ok (.iadd, 1) := by decide +kernel
theorem dL_law_745 : decode cL_law 745 = .ok (.iaload, 1) := by decide +kernel
theorem dL_law_746 : decode cL_law 746 = .ok (.aload_n 0, 1) := by decide +kernel
theorem dL_law_747 : decode cL_law 747 = .ok (.iload_n 3, 1) := by decide +kernel
theorem dL_law_748 : decode cL_law 748 = .ok (.iconst 3, 1) := by decide +kernel
theorem dL_law_749 : decode cL_law 749 = .ok (.iadd, 1) := by decide +kernel
theorem dL_law_750 : decode cL_law 750 = .ok (.iaload, 1) := by decide +kernel
theorem dL_law_751 : decode cL_law 751 = .ok (.invokevirtual 85, 3) := by decide +kernel
theorem dL_law_754 : decode cL_law 754 = .ok (.if_icmp .eq 625, 3) := by decide +kernel
theorem dL_law_757 : decode cL_law 757 = .ok (.iconst 0, 1) := by decide +kernel
theorem dL_law_758 : decode cL_law 758 = .ok (.ireturn, 1) := by decide +kernel
theorem dL_law_759 : decode cL_law 759 = .ok (.aload_n 1, 1) := by decide +kernel
theorem dL_law_760 : decode cL_law 760 = .ok (.aload_n 0, 1) := by decide +kernel
theorem dL_law_761 : decode cL_law 761 = .ok (.iload_n 3, 1) := by decide +kernel
theorem dL_law_762 : decode cL_law 762 = .ok (.iconst 1, 1) := by decide +kernel
theorem dL_law_763 : decode cL_law 763 = .ok (.iadd, 1) := by decide +kernel
theorem dL_law_764 : decode cL_law 764 = .ok (.iaload, 1) := by decide +kernel
theorem dL_law_765 : decode cL_law 765 = .ok (.invokevirtual 86, 3) := by decide +kernel
theorem dL_law_768 : decode cL_law 768 = .ok (.aload_n 2, 1) := by decide +kernel
theorem dL_law_769 : decode cL_law 769 = .ok (.aload_n 0, 1) := by decide +kernel
theorem dL_law_770 : decode cL_law 770 = .ok (.iload_n 3, 1) := by decide +kernel
theorem dL_law_771 : decode cL_law 771 = .ok (.iconst 1, 1) := by decide +kernel
theorem dL_law_772 : decode cL_law 772 = .ok (.iadd, 1) := by decide +kernel
theorem dL_law_773 : decode cL_law 773 = .ok (.iaload, 1) := by decide +kernel
theorem dL_law_774 : decode cL_law 774 = .ok (.invokevirtual 89, 3) := by decide +kernel
theorem dL_law_777 : decode cL_law 777 = .ok (.if_icmp .eq 602, 3) := by decide +kernel
theorem dL_law_780 : decode cL_law 780 = .ok (.iconst 0, 1) := by decide +kernel
theorem dL_law_781 : decode cL_law 781 = .ok (.ireturn, 1) := by decide +kernel
theorem dL_law_782 : decode cL_law 782 = .ok (.aload_n 1, 1) := by decide +kernel
theorem dL_law_783 : decode cL_law 783 = .ok (.aload_n 0, 1) := by decide +kernel
theorem dL_law_784 : decode cL_law 784 = .ok (.iload_n 3, 1) := by decide +kernel
theorem dL_law_785 : decode cL_law 785 = .ok (.iconst 1, 1) := by decide +kernel
theorem dL_law_786 : decode cL_law 786 = .ok (.iadd, 1) := by decide +kernel
theorem dL_law_787 : decode cL_law 787 = .ok (.iaload, 1) := by decide +kernel
theorem dL_law_788 : decode cL_law 788 = .ok (.aload_n 0, 1) := by decide +kernel
theorem dL_law_789 : decode cL_law 789 = .ok (.iload_n 3, 1) := by decide +kernel
theorem dL_law_790 : decode cL_law 790 = .ok (.iconst 2, 1) := by decide +kernel
theorem dL_law_791 : decode cL_law 791 = .ok (.iadd, 1) := by decide +kernel
theorem dL_law_792 : decode cL_law 792 = .ok (.iaload, 1) := by decide +kernel
theorem dL_law_793 : decode cL_law 793 = .ok (.invokevirtual 90, 3) := by decide +kernel
theorem dL_law_796 : decode cL_law 796 = .ok (.aload_n 2, 1) := by decide +kernel
theorem dL_law_797 : decode cL_law 797 = .ok (.aload_n 0, 1) := by decide +kernel
theorem dL_law_798 : decode cL_law 798 = .ok (.iload_n 3, 1) := by decide +kernel
theorem dL_law_799 : decode cL_law 799 = .ok (.iconst 1, 1) := by decide +kernel
theorem dL_law_800 : decode cL_law 800 = .ok (.iadd, 1) := by decide +kernel
theorem dL_law_801 : decode cL_law 801 = .ok (.iaload, 1) := by decide +kernel
theorem dL_law_802 : decode cL_law 802 = .ok (.aload_n 0, 1) := by decide +kernel
theorem dL_law_803 : decode cL_law 803 = .ok (.iload_n 3, 1) := by decide +kernel
theorem dL_law_804 : decode cL_law 804 = .ok (.iconst 2, 1) := by decide +kernel
theorem dL_law_805 : decode cL_law 805 = .ok (.iadd, 1) := by decide +kernel
theorem dL_law_806 : decode cL_law 806 = .ok (.iaload, 1) := by decide +kernel
theorem dL_law_807 : decode cL_law 807 = .ok (.invokevirtual 93, 3) := by decide +kernel
theorem dL_law_810 : decode cL_law 810 = .ok (.if_icmp .eq 569, 3) := by decide +kernel
theorem dL_law_813 : decode cL_law 813 = .ok (.iconst 0, 1) := by decide +kernel
theorem dL_law_814 : decode cL_law 814 = .ok (.ireturn, 1) := by decide +kernel
theorem dL_law_815 : decode cL_law 815 = .ok (.aload_n 1, 1) := by decide +kernel
theorem dL_law_816 : decode cL_law 816 = .ok (.aload_n 0, 1) := by decide +kernel
theorem dL_law_817 : decode cL_law 817 = .ok (.iload_n 3, 1) := by decide +kernel
theorem dL_law_818 : decode cL_law 818 = .ok (.iconst 1, 1) := by decide +kernel
theorem dL_law_819 : decode cL_law 819 = .ok (.iadd, 1) := by decide +kernel
theorem dL_law_820 : decode cL_law 820 = .ok (.iaload, 1) := by decide +kernel
theorem dL_law_821 : decode cL_law 821 = .ok (.aload_n 0, 1) := by decide +kernel
theorem dL_law_822 : decode cL_law 822 = .ok (.iload_n 3, 1) := by decide +kernel
theorem dL_law_823 : decode cL_law 823 = .ok (.iconst 2, 1) := by decide +kernel
theorem dL_law_824 : decode cL_law 824 = .ok (.iadd, 1) := by decide +kernel
theorem dL_law_825 : decode cL_law 825 = .ok (.iaload, 1) := by decide +kernel
theorem dL_law_826 : decode cL_law 826 = .ok (.aload_n 0, 1) := by decide +kernel
theorem dL_law_827 : decode cL_law 827 = .ok (.iload_n 3, 1) := by decide +kernel
theorem dL_law_828 : decode cL_law 828 = .ok (.iconst 3, 1) := by decide +kernel
theorem dL_law_829 : decode cL_law 829 = .ok (.iadd, 1) := by decide +kernel
theorem dL_law_830 : decode cL_law 830 = .ok (.iaload, 1) := by decide +kernel
theorem dL_law_831 : decode cL_law 831 = .ok (.invokevirtual 94, 3) := by decide +kernel
theorem dL_law_834 : decode cL_law 834 = .ok (.aload_n 2, 1) := by decide +kernel
theorem dL_law_835 : decode cL_law 835 = .ok (.aload_n 0, 1) := by decide +kernel
theorem dL_law_836 : decode cL_law 836 = .ok (.iload_n 3, 1) := by decide +kernel
theorem dL_law_837 : decode cL_law 837 = .ok (.iconst 1, 1) := by decide +kernel
theorem dL_law_838 : decode cL_law 838 = .ok (.iadd, 1) := by decide +kernel
theorem dL_law_839 : decode cL_law 839 = .ok (.iaload, 1) := by decide +kernel
theorem dL_law_840 : decode cL_law 840 = .ok (.aload_n 0, 1) := by decide +kernel
theorem dL_law_841 : decode cL_law 841 = .ok (.iload_n 3, 1) := by decide +kernel
theorem dL_law_842 : decode cL_law 842 = .ok (.iconst 2, 1) := by decide +kernel
theorem dL_law_843 : decode cL_law 843 = .ok (.iadd, 1) := by decide +kernel
theorem dL_law_844 : decode cL_law 844 = .ok (.iaload, 1) := by decide +kernel
theorem dL_law_845 : decode cL_law 845 = .ok (.aload_n 0, 1) := by decide +kernel
theorem dL_law_846 : decode cL_law 846 = .ok (.iload_n 3, 1) := by decide +kernel
theorem dL_law_847 : decode cL_law 847 = .ok (.iconst 3, 1) := by decide +kernel
theorem dL_law_848 : decode cL_law 848 = .ok (.iadd, 1) := by decide +kernel
theorem dL_law_849 : decode cL_law 849 = .ok (.iaload, 1) := by decide +kernel
theorem dL_law_850 : decode cL_law 850 = .ok (.invokevirtual 98, 3) := by decide +kernel
theorem dL_law_853 : decode cL_law 853 = .ok (.lcmp, 1) := by decide +kernel
theorem dL_law_854 : decode cL_law 854 = .ok (.ifCond .eq 525, 3) := by decide +kernel
theorem dL_law_857 : decode cL_law 857 = .ok (.iconst 0, 1) := by decide +kernel
theorem dL_law_858 : decode cL_law 858 = .ok (.ireturn, 1) := by decide +kernel
theorem dL_law_859 : decode cL_law 859 = .ok (.aload_n 1, 1) := by decide +kernel
theorem dL_law_860 : decode cL_law 860 = .ok (.aload_n 0, 1) := by decide +kernel
theorem dL_law_861 : decode cL_law 861 = .ok (.iload_n 3, 1) := by decide +kernel
theorem dL_law_862 : decode cL_law 862 = .ok (.iconst 1, 1) := by decide +kernel
theorem dL_law_863 : decode cL_law 863 = .ok (.iadd, 1) := by decide +kernel
theorem dL_law_864 : decode cL_law 864 = .ok (.iaload, 1) := by decide +kernel
theorem dL_law_865 : decode cL_law 865 = .ok (.invokevirtual 99, 3) := by decide +kernel
theorem dL_law_868 : decode cL_law 868 = .ok (.aload_n 2, 1) := by decide +kernel
theorem dL_law_869 : decode cL_law 869 = .ok (.aload_n 0, 1) := by decide +kernel
theorem dL_law_870 : decode cL_law 870 = .ok (.iload_n 3, 1) := by decide +kernel
theorem dL_law_871 : decode cL_law 871 = .ok (.iconst 1, 1) := by decide +kernel
theorem dL_law_872 : decode cL_law 872 = .ok (.iadd, 1) := by decide +kernel
theorem dL_law_873 : decode cL_law 873 = .ok (.iaload, 1) := by decide +kernel
theorem dL_law_874 : decode cL_law 874 = .ok (.invokevirtual 103, 3) := by decide +kernel
theorem dL_law_877 : decode cL_law 877 = .ok (.lcmp, 1) := by decide +kernel
theorem dL_law_878 : decode cL_law 878 = .ok (.ifCond .eq 501, 3) := by decide +kernel
theorem dL_law_881 : decode cL_law 881 = .ok (.iconst 0, 1) := by decide +kernel
theorem dL_law_882 : decode cL_law 882 = .ok (.ireturn, 1) := by decide +kernel
theorem dL_law_883 : decode cL_law 883 = .ok (.aload_n 1, 1) := by decide +kernel
theorem dL_law_884 : decode cL_law 884 = .ok (.aload_n 0, 1) := by decide +kernel
theorem dL_law_885 : decode cL_law 885 = .ok (.iload_n 3, 1) := by decide +kernel
theorem dL_law_886 : decode cL_law 886 = .ok (.iconst 1, 1) := by decide +kernel
theorem dL_law_887 : decode cL_law 887 = .ok (.iadd, 1) := by decide +kernel
theorem dL_law_888 : decode cL_law 888 = .ok (.iaload, 1) := by decide +kernel
theorem dL_law_889 : decode cL_law 889 = .ok (.aload_n 0, 1) := by decide +kernel
theorem dL_law_890 : decode cL_law 890 = .ok (.iload_n 3, 1) := by decide +kernel
theorem dL_law_891 : decode cL_law 891 = .ok (.iconst 2, 1) := by decide +kernel
theorem dL_law_892 : decode cL_law 892 = .ok (.iadd, 1) := by decide +kernel
theorem dL_law_893 : decode cL_law 893 = .ok (.iaload, 1) := by decide +kernel
theorem dL_law_894 : decode cL_law 894 = .ok (.invokevirtual 104, 3) := by decide +kernel
theorem dL_law_897 : decode cL_law 897 = .ok (.aload_n 2, 1) := by decide +kernel
theorem dL_law_898 : decode cL_law 898 = .ok (.aload_n 0, 1) := by decide +kernel
theorem dL_law_899 : decode cL_law 899 = .ok (.iload_n 3, 1) := by decide +kernel
theorem dL_law_900 : decode cL_law 900 = .ok (.iconst 1, 1) := by decide +kernel
theorem dL_law_901 : decode cL_law 901 = .ok (.iadd, 1) := by decide +kernel
theorem dL_law_902 : decode cL_law 902 = .ok (.iaload, 1) := by decide +kernel
theorem dL_law_903 : decode cL_law 903 = .ok (.aload_n 0, 1) := by decide +kernel
theorem dL_law_904 : decode cL_law 904 = .ok (.iload_n 3, 1) := by decide +kernel
theorem dL_law_905 : decode cL_law 905 = .ok (.iconst 2, 1) := by decide +kernel
theorem dL_law_906 : decode cL_law 906 = .ok (.iadd, 1) := by decide +kernel
theorem dL_law_907 : decode cL_law 907 = .ok (.iaload, 1) := by decide +kernel
theorem dL_law_908 : decode cL_law 908 = .ok (.invokevirtual 107, 3) := by decide +kernel
theorem dL_law_911 : decode cL_law 911 = .ok (.if_icmp .eq 468, 3) := by decide +kernel
theorem dL_law_914 : decode cL_law 914 = .ok (.iconst 0, 1) := by decide +kernel
theorem dL_law_915 : decode cL_law 915 = .ok (.ireturn, 1) := by decide +kernel
theorem dL_law_916 : decode cL_law 916 = .ok (.aload_n 1, 1) := by decide +kernel
theorem dL_law_917 : decode cL_law 917 = .ok (.aload_n 0, 1) := by decide +kernel
theorem dL_law_918 : decode cL_law 918 = .ok (.iload_n 3, 1) := by decide +kernel
theorem dL_law_919 : decode cL_law 919 = .ok (.iconst 1, 1) := by decide +kernel
theorem dL_law_920 : decode cL_law 920 = .ok (.iadd, 1) := by decide +kernel
theorem dL_law_921 : decode cL_law 921 = .ok (.iaload, 1) := by decide +kernel
theorem dL_law_922 : decode cL_law 922 = .ok (.invokevirtual 108, 3) := by decide +kernel
theorem dL_law_925 : decode cL_law 925 = .ok (.aload_n 2, 1) := by decide +kernel
theorem dL_law_926 : decode cL_law 926 = .ok (.aload_n 0, 1) := by decide +kernel
theorem dL_law_927 : decode cL_law 927 = .ok (.iload_n 3, 1) := by decide +kernel
theorem dL_law_928 : decode cL_law 928 = .ok (.iconst 1, 1) := by decide +kernel
theorem dL_law_929 : decode cL_law 929 = .ok (.iadd, 1) := by decide +kernel
theorem dL_law_930 : decode cL_law 930 = .ok (.iaload, 1) := by decide +kernel
theorem dL_law_931 : decode cL_law 931 = .ok (.invokevirtual 111, 3) := by decide +kernel
theorem dL_law_934 : decode cL_law 934 = .ok (.if_icmp .eq 445, 3) := by decide +kernel
theorem dL_law_937 : decode cL_law 937 = .ok (.iconst 0, 1) := by decide +kernel
theorem dL_law_938 : decode cL_law 938 = .ok (.ireturn, 1) := by decide +kernel
theorem dL_law_939 : decode cL_law 939 = .ok (.aload_n 1, 1) := by decide +kernel
theorem dL_law_940 : decode cL_law 940 = .ok (.aload_n 0, 1) := by decide +kernel
theorem dL_law_941 : decode cL_law 941 = .ok (.iload_n 3, 1) := by decide +kernel
theorem dL_law_942 : decode cL_law 942 = .ok (.iconst 1, 1) := by decide +kernel
theorem dL_law_943 : decode cL_law 943 = .ok (.iadd, 1) := by decide +kernel
theorem dL_law_944 : decode cL_law 944 = .ok (.iaload, 1) := by decide +kernel
theorem dL_law_945 : decode cL_law 945 = .ok (.aload_n 0, 1) := by decide +kernel
theorem dL_law_946 : decode cL_law 946 = .ok (.iload_n 3, 1) := by decide +kernel
theorem dL_law_947 : decode cL_law 947 = .ok (.iconst 2, 1) := by decide +kernel
theorem dL_law_948 : decode cL_law 948 = .ok (.iadd, 1) := by decide +kernel
theorem dL_law_949 : decode cL_law 949 = .ok (.iaload, 1) := by decide +kernel
theorem dL_law_950 : decode cL_law 950 = .ok (.invokevirtual 112, 3) := by decide +kernel
theorem dL_law_953 : decode cL_law 953 = .ok (.aload_n 2, 1) := by decide +kernel
theorem dL_law_954 : decode cL_law 954 = .ok (.aload_n 0, 1) := by decide +kernel
theorem dL_law_955 : decode cL_law 955 = .ok (.iload_n 3, 1) := by decide +kernel
theorem dL_law_956 : decode cL_law 956 = .ok (.iconst 1, 1) := by decide +kernel
theorem dL_law_957 : decode cL_law 957 = .ok (.iadd, 1) := by decide +kernel
theorem dL_law_958 : decode cL_law 958 = .ok (.iaload, 1) := by decide +kernel
theorem dL_law_959 : decode cL_law 959 = .ok (.aload_n 0, 1) := by decide +kernel
theorem dL_law_960 : decode cL_law 960 = .ok (.iload_n 3, 1) := by decide +kernel
theorem dL_law_961 : decode cL_law 961 = .ok (.iconst 2, 1) := by decide +kernel
theorem dL_law_962 : decode cL_law 962 = .ok (.iadd, 1) := by decide +kernel
theorem dL_law_963 : decode cL_law 963 = .ok (.iaload, 1) := by decide +kernel
theorem dL_law_964 : decode cL_law 964 = .ok (.invokevirtual 115, 3) := by decide +kernel
theorem dL_law_967 : decode cL_law 967 = .ok (.if_icmp .eq 412, 3) := by decide +kernel
theorem dL_law_970 : decode cL_law 970 = .ok (.iconst 0, 1) := by decide +kernel
theorem dL_law_971 : decode cL_law 971 = .ok (.ireturn, 1) := by decide +kernel
theorem dL_law_972 : decode cL_law 972 = .ok (.aload_n 1, 1) := by decide +kernel
theorem dL_law_973 : decode cL_law 973 = .ok (.invokevirtual 116, 3) := by decide +kernel
theorem dL_law_976 : decode cL_law 976 = .ok (.aload_n 2, 1) := by decide +kernel
theorem dL_law_977 : decode cL_law 977 = .ok (.invokevirtual 119, 3) := by decide +kernel
theorem dL_law_980 : decode cL_law 980 = .ok (.if_icmp .eq 399, 3) := by decide +kernel
theorem dL_law_983 : decode cL_law 983 = .ok (.iconst 0, 1) := by decide +kernel
theorem dL_law_984 : decode cL_law 984 = .ok (.ireturn, 1) := by decide +kernel
theorem dL_law_985 : decode cL_law 985 = .ok (.aload_n 1, 1) := by decide +kernel
theorem dL_law_986 : decode cL_law 986 = .ok (.aload_n 0, 1) := by decide +kernel
theorem dL_law_987 : decode cL_law 987 = .ok (.iload_n 3, 1) := by decide +kernel
theorem dL_law_988 : decode cL_law 988 = .ok (.iconst 1, 1) := by decide +kernel
theorem dL_law_989 : decode cL_law 989 = .ok (.iadd, 1) := by decide +kernel
theorem dL_law_990 : decode cL_law 990 = .ok (.iaload, 1) := by decide +kernel
theorem dL_law_991 : decode cL_law 991 = .ok (.aload_n 0, 1) := by decide +kernel
theorem dL_law_992 : decode cL_law 992 = .ok (.iload_n 3, 1) := by decide +kernel
theorem dL_law_993 : decode cL_law 993 = .ok (.iconst 2, 1) := by decide +kernel
theorem dL_law_994 : decode cL_law 994 = .ok (.iadd, 1) := by decide +kernel
theorem dL_law_995 : decode cL_law 995 = .ok (.iaload, 1) := by decide +kernel
theorem dL_law_996 : decode cL_law 996 = .ok (.invokevirtual 120, 3) := by decide +kernel
theorem dL_law_999 : decode cL_law 999 = .ok (.aload_n 2, 1) := by decide +kernel
theorem dL_law_1000 : decode cL_law 1000 = .ok (.aload_n 0, 1) := by decide +kernel
theorem dL_law_1001 : decode cL_law 1001 = .ok (.iload_n 3, 1) := by decide +kernel
theorem dL_law_1002 : decode cL_law 1002 = .ok (.iconst 1, 1) := by decide +kernel
theorem dL_law_1003 : decode cL_law 1003 = .ok (.iadd, 1) := by decide +kernel
theorem dL_law_1004 : decode cL_law 1004 = .ok (.iaload, 1) := by decide +kernel
theorem dL_law_1005 : decode cL_law 1005 = .ok (.aload_n 0, 1) := by decide +kernel
theorem dL_law_1006 : decode cL_law 1006 = .ok (.iload_n 3, 1) := by decide +kernel
theorem dL_law_1007 : decode cL_law 1007 = .ok (.iconst 2, 1) := by decide +kernel
theorem dL_law_1008 : decode cL_law 1008 = .ok (.iadd, 1) := by decide +kernel
theorem dL_law_1009 : decode cL_law 1009 = .ok (.iaload, 1) := by decide +kernel
theorem dL_law_1010 : decode cL_law 1010 = .ok (.invokevirtual 123, 3) := by decide +kernel
theorem dL_law_1013 : decode cL_law 1013 = .ok (.if_icmp .eq 366, 3) := by decide +kernel
theorem dL_law_1016 : decode cL_law 1016 = .ok (.iconst 0, 1) := by decide +kernel
theorem dL_law_1017 : decode cL_law 1017 = .ok (.ireturn, 1) := by decide +kernel
theorem dL_law_1018 : decode cL_law 1018 = .ok (.aload_n 1, 1) := by decide +kernel
theorem dL_law_1019 : decode cL_law 1019 = .ok (.invokevirtual 124, 3) := by decide +kernel
theorem dL_law_1022 : decode cL_law 1022 = .ok (.aload_n 2, 1) := by decide +kernel
theorem dL_law_1023 : decode cL_law 1023 = .ok (.invokevirtual 127, 3) := by decide +kernel
theorem dL_law_1026 : decode cL_law 1026 = .ok (.if_icmp .eq 353, 3) := by decide +kernel
theorem dL_law_1029 : decode cL_law 1029 = .ok (.iconst 0, 1) := by decide +kernel
theorem dL_law_1030 : decode cL_law 1030 = .ok (.ireturn, 1) := by decide +kernel
theorem dL_law_1031 : decode cL_law 1031 = .ok (.aload_n 1, 1) := by decide +kernel
theorem dL_law_1032 : decode cL_law 1032 = .ok (.invokevirtual 128, 3) := by decide +kernel
theorem dL_law_1035 : decode cL_law 1035 = .ok (.aload_n 2, 1) := by decide +kernel
theorem dL_law_1036 : decode cL_law 1036 = .ok (.invokevirtual 131, 3) := by decide +kernel
theorem dL_law_1039 : decode cL_law 1039 = .ok (.if_icmp .eq 340, 3) := by decide +kernel
theorem dL_law_1042 : decode cL_law 1042 = .ok (.iconst 0, 1) := by decide +kernel
theorem dL_law_1043 : decode cL_law 1043 = .ok (.ireturn, 1) := by decide +kernel
theorem dL_law_1044 : decode cL_law 1044 = .ok (.aload_n 1, 1) := by decide +kernel
theorem dL_law_1045 : decode cL_law 1045 = .ok (.aload_n 0, 1) := by decide +kernel
theorem dL_law_1046 : decode cL_law 1046 = .ok (.iload_n 3, 1) := by decide +kernel
theorem dL_law_1047 : decode cL_law 1047 = .ok (.iconst 1, 1) := by decide +kernel
theorem dL_law_1048 : decode cL_law 1048 = .ok (.iadd, 1) := by decide +kernel
theorem dL_law_1049 : decode cL_law 1049 = .ok (.iaload, 1) := by decide +kernel
theorem dL_law_1050 : decode cL_law 1050 = .ok (.aload_n 0, 1) := by decide +kernel
theorem dL_law_1051 : decode cL_law 1051 = .ok (.iload_n 3, 1) := by decide +kernel
theorem dL_law_1052 : decode cL_law 1052 = .ok (.iconst 2, 1) := by decide +kernel
theorem dL_law_1053 : decode cL_law 1053 = .ok (.iadd, 1) := by decide +kernel
theorem dL_law_1054 : decode cL_law 1054 = .ok (.iaload, 1) := by decide +kernel
theorem dL_law_1055 : decode cL_law 1055 = .ok (.aload_n 0, 1) := by decide +kernel
theorem dL_law_1056 : decode cL_law 1056 = .ok (.iload_n 3, 1) := by decide +kernel
theorem dL_law_1057 : decode cL_law 1057 = .ok (.iconst 3, 1) := by decide +kernel
theorem dL_law_1058 : decode cL_law 1058 = .ok (.iadd, 1) := by decide +kernel
theorem dL_law_1059 : decode cL_law 1059 = .ok (.iaload, 1) := by decide +kernel
theorem dL_law_1060 : decode cL_law 1060 = .ok (.invokevirtual 132, 3) := by decide +kernel
theorem dL_law_1063 : decode cL_law 1063 = .ok (.aload_n 2, 1) := by decide +kernel
theorem dL_law_1064 : decode cL_law 1064 = .ok (.aload_n 0, 1) := by decide +kernel
theorem dL_law_1065 : decode cL_law 1065 = .ok (.iload_n 3, 1) := by decide +kernel
theorem dL_law_1066 : decode cL_law 1066 = .ok (.iconst 1, 1) := by decide +kernel
theorem dL_law_1067 : decode cL_law 1067 = .ok (.iadd, 1) := by decide +kernel
theorem dL_law_1068 : decode cL_law 1068 = .ok (.iaload, 1) := by decide +kernel
theorem dL_law_1069 : decode cL_law 1069 = .ok (.aload_n 0, 1) := by decide +kernel
theorem dL_law_1070 : decode cL_law 1070 = .ok (.iload_n 3, 1) := by decide +kernel
theorem dL_law_1071 : decode cL_law 1071 = .ok (.iconst 2, 1) := by decide +kernel
theorem dL_law_1072 : decode cL_law 1072 = .ok (.iadd, 1) := by decide +kernel
theorem dL_law_1073 : decode cL_law 1073 = .ok (.iaload, 1) := by decide +kernel
theorem dL_law_1074 : decode cL_law 1074 = .ok (.aload_n 0, 1) := by decide +kernel
theorem dL_law_1075 : decode cL_law 1075 = .ok (.iload_n 3, 1) := by decide +kernel
theorem dL_law_1076 : decode cL_law 1076 = .ok (.iconst 3, 1) := by decide +kernel
theorem dL_law_1077 : decode cL_law 1077 = .ok (.iadd, 1) := by decide +kernel
theorem dL_law_1078 : decode cL_law 1078 = .ok (.iaload, 1) := by decide +kernel
theorem dL_law_1079 : decode cL_law 1079 = .ok (.invokevirtual 135, 3) := by decide +kernel
theorem dL_law_1082 : decode cL_law 1082 = .ok (.if_icmp .eq 297, 3) := by decide +kernel
theorem dL_law_1085 : decode cL_law 1085 = .ok (.iconst 0, 1) := by decide +kernel
theorem dL_law_1086 : decode cL_law 1086 = .ok (.ireturn, 1) := by decide +kernel
theorem dL_law_1087 : decode cL_law 1087 = .ok (.aload_n 1, 1) := by decide +kernel
theorem dL_law_1088 : decode cL_law 1088 = .ok (.aload_n 0, 1) := by decide +kernel
theorem dL_law_1089 : decode cL_law 1089 = .ok (.iload_n 3, 1) := by decide +kernel
theorem dL_law_1090 : decode cL_law 1090 = .ok (.iconst 1, 1) := by decide +kernel
theorem dL_law_1091 : decode cL_law 1091 = .ok (.iadd, 1) := by decide +kernel
theorem dL_law_1092 : decode cL_law 1092 = .ok (.iaload, 1) := by decide +kernel
theorem dL_law_1093 : decode cL_law 1093 = .ok (.invokevirtual 136, 3) := by decide +kernel
theorem dL_law_1096 : decode cL_law 1096 = .ok (.aload_n 2, 1) := by decide +kernel
theorem dL_law_1097 : decode cL_law 1097 = .ok (.aload_n 0, 1) := by decide +kernel
theorem dL_law_1098 : decode cL_law 1098 = .ok (.iload_n 3, 1) := by decide +kernel
theorem dL_law_1099 : decode cL_law 1099 = .ok (.iconst 1, 1) := by decide +kernel
theorem dL_law_1100 : decode cL_law 1100 = .ok (.iadd, 1) := by decide +kernel
theorem dL_law_1101 : decode cL_law 1101 = .ok (.iaload, 1) := by decide +kernel
theorem dL_law_1102 : decode cL_law 1102 = .ok (.invokevirtual 139, 3) := by decide +kernel
theorem dL_law_1105 : decode cL_law 1105 = .ok (.if_icmp .eq 274, 3) := by decide +kernel
theorem dL_law_1108 : decode cL_law 1108 = .ok (.iconst 0, 1) := by decide +kernel
theorem dL_law_1109 : decode cL_law 1109 = .ok (.ireturn, 1) := by decide +kernel
theorem dL_law_1110 : decode cL_law 1110 = .ok (.aload_n 1, 1) := by decide +kernel
theorem dL_law_1111 : decode cL_law 1111 = .ok (.aload_n 0, 1) := by decide +kernel
theorem dL_law_1112 : decode cL_law 1112 = .ok (.iload_n 3, 1) := by decide +kernel
theorem dL_law_1113 : decode cL_law 1113 = .ok (.iconst 1, 1) := by decide +kernel
theorem dL_law_1114 : decode cL_law 1114 = .ok (.iadd, 1) := by decide +kernel
theorem dL_law_1115 : decode cL_law 1115 = .ok (.iaload, 1) := by decide +kernel
theorem dL_law_1116 : decode cL_law 1116 = .ok (.aload_n 0, 1) := by decide +kernel
theorem dL_law_1117 : decode cL_law 1117 = .ok (.iload_n 3, 1) := by decide +kernel
theorem dL_law_1118 : decode cL_law 1118 = .ok (.iconst 2, 1) := by decide +kernel
theorem dL_law_1119 : decode cL_law 1119 = .ok (.iadd, 1) := by decide +kernel
theorem dL_law_1120 : decode cL_law 1120 = .ok (.iaload, 1) := by decide +kernel
theorem dL_law_1121 : decode cL_law 1121 = .ok (.invokevirtual 140, 3) := by decide +kernel
theorem dL_law_1124 : decode cL_law 1124 = .ok (.aload_n 2, 1) := by decide +kernel
theorem dL_law_1125 : decode cL_law 1125 = .ok (.aload_n 0, 1) := by decide +kernel
theorem dL_law_1126 : decode cL_law 1126 = .ok (.iload_n 3, 1) := by decide +kernel
theorem dL_law_1127 : decode cL_law 1127 = .ok (.iconst 1, 1) := by decide +kernel
theorem dL_law_1128 : decode cL_law 1128 = .ok (.iadd, 1) := by decide +kernel
theorem dL_law_1129 : decode cL_law 1129 = .ok (.iaload, 1) := by decide +kernel
theorem dL_law_1130 : decode cL_law 1130 = .ok (.aload_n 0, 1) := by decide +kernel
theorem dL_law_1131 : decode cL_law 1131 = .ok (.iload_n 3, 1) := by decide +kernel
theorem dL_law_1132 : decode cL_law 1132 = .ok (.iconst 2, 1) := by decide +kernel
theorem dL_law_1133 : decode cL_law 1133 = .ok (.iadd, 1) := by decide +kernel
theorem dL_law_1134 : decode cL_law 1134 = .ok (.iaload, 1) := by decide +kernel
theorem dL_law_1135 : decode cL_law 1135 = .ok (.invokevirtual 143, 3) := by decide +kernel
theorem dL_law_1138 : decode cL_law 1138 = .ok (.if_icmp .eq 241, 3) := by decide +kernel
theorem dL_law_1141 : decode cL_law 1141 = .ok (.iconst 0, 1) := by decide +kernel
theorem dL_law_1142 : decode cL_law 1142 = .ok (.ireturn, 1) := by decide +kernel
theorem dL_law_1143 : decode cL_law 1143 = .ok (.aload_n 1, 1) := by decide +kernel
theorem dL_law_1144 : decode cL_law 1144 = .ok (.aload_n 0, 1) := by decide +kernel
theorem dL_law_1145 : decode cL_law 1145 = .ok (.iload_n 3, 1) := by decide +kernel
theorem dL_law_1146 : decode cL_law 1146 = .ok (.iconst 1, 1) := by decide +kernel
theorem dL_law_1147 : decode cL_law 1147 = .ok (.iadd, 1) := by decide +kernel
theorem dL_law_1148 : decode cL_law 1148 = .ok (.iaload, 1) := by decide +kernel
theorem dL_law_1149 : decode cL_law 1149 = .ok (.invokevirtual 144, 3) := by decide +kernel
theorem dL_law_1152 : decode cL_law 1152 = .ok (.aload_n 2, 1) := by decide +kernel
theorem dL_law_1153 : decode cL_law 1153 = .ok (.aload_n 0, 1) := by decide +kernel
theorem dL_law_1154 : decode cL_law 1154 = .ok (.iload_n 3, 1) := by decide +kernel
theorem dL_law_1155 : decode cL_law 1155 = .ok (.iconst 1, 1) := by decide +kernel
theorem dL_law_1156 : decode cL_law 1156 = .ok (.iadd, 1) := by decide +kernel
theorem dL_law_1157 : decode cL_law 1157 = .ok (.iaload, 1) := by decide +kernel
theorem dL_law_1158 : decode cL_law 1158 = .ok (.invokevirtual 147, 3) := by decide +kernel
theorem dL_law_1161 : decode cL_law 1161 = .ok (.if_icmp .eq 218, 3) := by decide +kernel
theorem dL_law_1164 : decode cL_law 1164 = .ok (.iconst 0, 1) := by decide +kernel
theorem dL_law_1165 : decode cL_law 1165 = .ok (.ireturn, 1) := by decide +kernel
theorem dL_law_1166 : decode cL_law 1166 = .ok (.aload_n 1, 1) := by decide +kernel
theorem dL_law_1167 : decode cL_law 1167 = .ok (.aload_n 0, 1) := by decide +kernel
theorem dL_law_1168 : decode cL_law 1168 = .ok (.iload_n 3, 1) := by decide +kernel
theorem dL_law_1169 : decode cL_law 1169 = .ok (.iconst 1, 1) := by decide +kernel
theorem dL_law_1170 : decode cL_law 1170 = .ok (.iadd, 1) := by decide +kernel
theorem dL_law_1171 : decode cL_law 1171 = .ok (.iaload, 1) := by decide +kernel
theorem dL_law_1172 : decode cL_law 1172 = .ok (.aload_n 0, 1) := by decide +kernel
theorem dL_law_1173 : decode cL_law 1173 = .ok (.iload_n 3, 1) := by decide +kernel
theorem dL_law_1174 : decode cL_law 1174 = .ok (.iconst 2, 1) := by decide +kernel
theorem dL_law_1175 : decode cL_law 1175 = .ok (.iadd, 1) := by decide +kernel
theorem dL_law_1176 : decode cL_law 1176 = .ok (.iaload, 1) := by decide +kernel
theorem dL_law_1177 : decode cL_law 1177 = .ok (.aload_n 0, 1) := by decide +kernel
theorem dL_law_1178 : decode cL_law 1178 = .ok (.iload_n 3, 1) := by decide +kernel
theorem dL_law_1179 : decode cL_law 1179 = .ok (.iconst 3, 1) := by decide +kernel
theorem dL_law_1180 : decode cL_law 1180 = .ok (.iadd, 1) := by decide +kernel
theorem dL_law_1181 : decode cL_law 1181 = .ok (.iaload, 1) := by decide +kernel
theorem dL_law_1182 : decode cL_law 1182 = .ok (.invokevirtual 148, 3) := by decide +kernel
theorem dL_law_1185 : decode cL_law 1185 = .ok (.aload_n 2, 1) := by decide +kernel
theorem dL_law_1186 : decode cL_law 1186 = .ok (.aload_n 0, 1) := by decide +kernel
theorem dL_law_1187 : decode cL_law 1187 = .ok (.iload_n 3, 1) := by decide +kernel
theorem dL_law_1188 : decode cL_law 1188 = .ok (.iconst 1, 1) := by decide +kernel
theorem dL_law_1189 : decode cL_law 1189 = .ok (.iadd, 1) := by decide +kernel
theorem dL_law_1190 : decode cL_law 1190 = .ok (.iaload, 1) := by decide +kernel
theorem dL_law_1191 : decode cL_law 1191 = .ok (.aload_n 0, 1) := by decide +kernel
theorem dL_law_1192 : decode cL_law 1192 = .ok (.iload_n 3, 1) := by decide +kernel
theorem dL_law_1193 : decode cL_law 1193 = .ok (.iconst 2, 1) := by decide +kernel
theorem dL_law_1194 : decode cL_law 1194 = .ok (.iadd, 1) := by decide +kernel
theorem dL_law_1195 : decode cL_law 1195 = .ok (.iaload, 1) := by decide +kernel
theorem dL_law_1196 : decode cL_law 1196 = .ok (.aload_n 0, 1) := by decide +kernel
theorem dL_law_1197 : decode cL_law 1197 = .ok (.iload_n 3, 1) := by decide +kernel
theorem dL_law_1198 : decode cL_law 1198 = .ok (.iconst 3, 1) := by decide +kernel
theorem dL_law_1199 : decode cL_law 1199 = .ok (.iadd, 1) := by decide +kernel
theorem dL_law_1200 : decode cL_law 1200 = .ok (.iaload, 1) := by decide +kernel
theorem dL_law_1201 : decode cL_law 1201 = .ok (.invokevirtual 151, 3) := by decide +kernel
theorem dL_law_1204 : decode cL_law 1204 = .ok (.if_icmp .eq 175, 3) := by decide +kernel
theorem dL_law_1207 : decode cL_law 1207 = .ok (.iconst 0, 1) := by decide +kernel
theorem dL_law_1208 : decode cL_law 1208 = .ok (.ireturn, 1) := by decide +kernel
theorem dL_law_1209 : decode cL_law 1209 = .ok (.aload_n 1, 1) := by decide +kernel
theorem dL_law_1210 : decode cL_law 1210 = .ok (.aload_n 0, 1) := by decide +kernel
theorem dL_law_1211 : decode cL_law 1211 = .ok (.iload_n 3, 1) := by decide +kernel
theorem dL_law_1212 : decode cL_law 1212 = .ok (.iconst 1, 1) := by decide +kernel
theorem dL_law_1213 : decode cL_law 1213 = .ok (.iadd, 1) := by decide +kernel
theorem dL_law_1214 : decode cL_law 1214 = .ok (.iaload, 1) := by decide +kernel
theorem dL_law_1215 : decode cL_law 1215 = .ok (.aload_n 0, 1) := by decide +kernel
theorem dL_law_1216 : decode cL_law 1216 = .ok (.iload_n 3, 1) := by decide +kernel
theorem dL_law_1217 : decode cL_law 1217 = .ok (.iconst 2, 1) := by decide +kernel
theorem dL_law_1218 : decode cL_law 1218 = .ok (.iadd, 1) := by decide +kernel
theorem dL_law_1219 : decode cL_law 1219 = .ok (.iaload, 1) := by decide +kernel
theorem dL_law_1220 : decode cL_law 1220 = .ok (.aload_n 0, 1) := by decide +kernel
theorem dL_law_1221 : decode cL_law 1221 = .ok (.iload_n 3, 1) := by decide +kernel
theorem dL_law_1222 : decode cL_law 1222 = .ok (.iconst 3, 1) := by decide +kernel
theorem dL_law_1223 : decode cL_law 1223 = .ok (.iadd, 1) := by decide +kernel
theorem dL_law_1224 : decode cL_law 1224 = .ok (.iaload, 1) := by decide +kernel
theorem dL_law_1225 : decode cL_law 1225 = .ok (.i2l, 1) := by decide +kernel
theorem dL_law_1226 : decode cL_law 1226 = .ok (.bipush 32, 2) := by decide +kernel
theorem dL_law_1228 : decode cL_law 1228 = .ok (.lshl, 1) := by decide +kernel
theorem dL_law_1229 : decode cL_law 1229 = .ok (.aload_n 0, 1) := by decide +kernel
theorem dL_law_1230 : decode cL_law 1230 = .ok (.iload_n 3, 1) := by decide +kernel
theorem dL_law_1231 : decode cL_law 1231 = .ok (.iconst 4, 1) := by decide +kernel
theorem dL_law_1232 : decode cL_law 1232 = .ok (.iadd, 1) := by decide +kernel
theorem dL_law_1233 : decode cL_law 1233 = .ok (.iaload, 1) := by decide +kernel
theorem dL_law_1234 : decode cL_law 1234 = .ok (.i2l, 1) := by decide +kernel
theorem dL_law_1235 : decode cL_law 1235 = .ok (.ldc2_w 152, 3) := by decide +kernel
theorem dL_law_1238 : decode cL_law 1238 = .ok (.land, 1) := by decide +kernel
theorem dL_law_1239 : decode cL_law 1239 = .ok (.lor, 1) := by decide +kernel
theorem dL_law_1240 : decode cL_law 1240 = .ok (.invokevirtual 154, 3) := by decide +kernel
theorem dL_law_1243 : decode cL_law 1243 = .ok (.aload_n 2, 1) := by decide +kernel
theorem dL_law_1244 : decode cL_law 1244 = .ok (.aload_n 0, 1) := by decide +kernel
theorem dL_law_1245 : decode cL_law 1245 = .ok (.iload_n 3, 1) := by decide +kernel
theorem dL_law_1246 : decode cL_law 1246 = .ok (.iconst 1, 1) := by decide +kernel
theorem dL_law_1247 : decode cL_law 1247 = .ok (.iadd, 1) := by decide +kernel
theorem dL_law_1248 : decode cL_law 1248 = .ok (.iaload, 1) := by decide +kernel
theorem dL_law_1249 : decode cL_law 1249 = .ok (.aload_n 0, 1) := by decide +kernel
theorem dL_law_1250 : decode cL_law 1250 = .ok (.iload_n 3, 1) := by decide +kernel
theorem dL_law_1251 : decode cL_law 1251 = .ok (.iconst 2, 1) := by decide +kernel
theorem dL_law_1252 : decode cL_law 1252 = .ok (.iadd, 1) := by decide +kernel
theorem dL_law_1253 : decode cL_law 1253 = .ok (.iaload, 1) := by decide +kernel
theorem dL_law_1254 : decode cL_law 1254 = .ok (.aload_n 0, 1) := by decide +kernel
theorem dL_law_1255 : decode cL_law 1255 = .ok (.iload_n 3, 1) := by decide +kernel
theorem dL_law_1256 : decode cL_law 1256 = .ok (.iconst 3, 1) := by decide +kernel
theorem dL_law_1257 : decode cL_law 1257 = .ok (.iadd, 1) := by decide +kernel
theorem dL_law_1258 : decode cL_law 1258 = .ok (.iaload, 1) := by decide +kernel
theorem dL_law_1259 : decode cL_law 1259 = .ok (.i2l, 1) := by decide +kernel
theorem dL_law_1260 : decode cL_law 1260 = .ok (.bipush 32, 2) := by decide +kernel
theorem dL_law_1262 : decode cL_law 1262 = .ok (.lshl, 1) := by decide +kernel
theorem dL_law_1263 : decode cL_law 1263 = .ok (.aload_n 0, 1) := by decide +kernel
theorem dL_law_1264 : decode cL_law 1264 = .ok (.iload_n 3, 1) := by decide +kernel
theorem dL_law_1265 : decode cL_law 1265 = .ok (.iconst 4, 1) := by decide +kernel
theorem dL_law_1266 : decode cL_law 1266 = .ok (.iadd, 1) := by decide +kernel
theorem dL_law_1267 : decode cL_law 1267 = .ok (.iaload, 1) := by decide +kernel
theorem dL_law_1268 : decode cL_law 1268 = .ok (.i2l, 1) := by decide +kernel
theorem dL_law_1269 : decode cL_law 1269 = .ok (.ldc2_w 152, 3) := by decide +kernel
theorem dL_law_1272 : decode cL_law 1272 = .ok (.land, 1) := by decide +kernel
theorem dL_law_1273 : decode cL_law 1273 = .ok (.lor, 1) := by decide +kernel
theorem dL_law_1274 : decode cL_law 1274 = .ok (.invokevirtual 158, 3) := by decide +kernel
theorem dL_law_1277 : decode cL_law 1277 = .ok (.if_icmp .eq 102, 3) := by decide +kernel
theorem dL_law_1280 : decode cL_law 1280 = .ok (.iconst 0, 1) := by decide +kernel
theorem dL_law_1281 : decode cL_law 1281 = .ok (.ireturn, 1) := by decide +kernel
theorem dL_law_1282 : decode cL_law 1282 = .ok (.aload_n 1, 1) := by decide +kernel
theorem dL_law_1283 : decode cL_law 1283 = .ok (.aload_n 0, 1) := by decide +kernel
theorem dL_law_1284 : decode cL_law 1284 = .ok (.iload_n 3, 1) := by decide +kernel
theorem dL_law_1285 : decode cL_law 1285 = .ok (.iconst 1, 1) := by decide +kernel
theorem dL_law_1286 : decode cL_law 1286 = .ok (.iadd, 1) := by decide +kernel
theorem dL_law_1287 : decode cL_law 1287 = .ok (.iaload, 1) := by decide +kernel
theorem dL_law_1288 : decode cL_law 1288 = .ok (.aload_n 0, 1) := by decide +kernel
theorem dL_law_1289 : decode cL_law 1289 = .ok (.iload_n 3, 1) := by decide +kernel
theorem dL_law_1290 : decode cL_law 1290 = .ok (.iconst 2, 1) := by decide +kernel
theorem dL_law_1291 : decode cL_law 1291 = .ok (.iadd, 1) := by decide +kernel
theorem dL_law_1292 : decode cL_law 1292 = .ok (.iaload, 1) := by decide +kernel
theorem dL_law_1293 : decode cL_law 1293 = .ok (.invokevirtual 159, 3) := by decide +kernel
theorem dL_law_1296 : decode cL_law 1296 = .ok (.aload_n 2, 1) := by decide +kernel
theorem dL_law_1297 : decode cL_law 1297 = .ok (.aload_n 0, 1) := by decide +kernel
theorem dL_law_1298 : decode cL_law 1298 = .ok (.iload_n 3, 1) := by decide +kernel
theorem dL_law_1299 : decode cL_law 1299 = .ok (.iconst 1, 1) := by decide +kernel
theorem dL_law_1300 : decode cL_law 1300 = .ok (.iadd, 1) := by decide +kernel
theorem dL_law_1301 : decode cL_law 1301 = .ok (.iaload, 1) := by decide +kernel
theorem dL_law_1302 : decode cL_law 1302 = .ok (.aload_n 0, 1) := by decide +kernel
theorem dL_law_1303 : decode cL_law 1303 = .ok (.iload_n 3, 1) := by decide +kernel
theorem dL_law_1304 : decode cL_law 1304 = .ok (.iconst 2, 1) := by decide +kernel
theorem dL_law_1305 : decode cL_law 1305 = .ok (.iadd, 1) := by decide +kernel
theorem dL_law_1306 : decode cL_law 1306 = .ok (.iaload, 1) := by decide +kernel
theorem dL_law_1307 : decode cL_law 1307 = .ok (.invokevirtual 163, 3) := by decide +kernel
theorem dL_law_1310 : decode cL_law 1310 = .ok (.lcmp, 1) := by decide +kernel
theorem dL_law_1311 : decode cL_law 1311 = .ok (.ifCond .eq 68, 3) := by decide +kernel
theorem dL_law_1314 : decode cL_law 1314 = .ok (.iconst 0, 1) := by decide +kernel
theorem dL_law_1315 : decode cL_law 1315 = .ok (.ireturn, 1) := by decide +kernel
theorem dL_law_1316 : decode cL_law 1316 = .ok (.aload_n 1, 1) := by decide +kernel
theorem dL_law_1317 : decode cL_law 1317 = .ok (.aload_n 0, 1) := by decide +kernel
theorem dL_law_1318 : decode cL_law 1318 = .ok (.iload_n 3, 1) := by decide +kernel
theorem dL_law_1319 : decode cL_law 1319 = .ok (.iconst 1, 1) := by decide +kernel
theorem dL_law_1320 : decode cL_law 1320 = .ok (.iadd, 1) := by decide +kernel
theorem dL_law_1321 : decode cL_law 1321 = .ok (.iaload, 1) := by decide +kernel
theorem dL_law_1322 : decode cL_law 1322 = .ok (.aload_n 0, 1) := by decide +kernel
theorem dL_law_1323 : decode cL_law 1323 = .ok (.iload_n 3, 1) := by decide +kernel
theorem dL_law_1324 : decode cL_law 1324 = .ok (.iconst 2, 1) := by decide +kernel
theorem dL_law_1325 : decode cL_law 1325 = .ok (.iadd, 1) := by decide +kernel
theorem dL_law_1326 : decode cL_law 1326 = .ok (.iaload, 1) := by decide +kernel
theorem dL_law_1327 : decode cL_law 1327 = .ok (.aload_n 0, 1) := by decide +kernel
theorem dL_law_1328 : decode cL_law 1328 = .ok (.iload_n 3, 1) := by decide +kernel
theorem dL_law_1329 : decode cL_law 1329 = .ok (.iconst 3, 1) := by decide +kernel
theorem dL_law_1330 : decode cL_law 1330 = .ok (.iadd, 1) := by decide +kernel
theorem dL_law_1331 : decode cL_law 1331 = .ok (.iaload, 1) := by decide +kernel
theorem dL_law_1332 : decode cL_law 1332 = .ok (.aload_n 0, 1) := by decide +kernel
theorem dL_law_1333 : decode cL_law 1333 = .ok (.iload_n 3, 1) := by decide +kernel
theorem dL_law_1334 : decode cL_law 1334 = .ok (.iconst 4, 1) := by decide +kernel
theorem dL_law_1335 : decode cL_law 1335 = .ok (.iadd, 1) := by decide +kernel
theorem dL_law_1336 : decode cL_law 1336 = .ok (.iaload, 1) := by decide +kernel
theorem dL_law_1337 : decode cL_law 1337 = .ok (.aload_n 0, 1) := by decide +kernel
theorem dL_law_1338 : decode cL_law 1338 = .ok (.iload_n 3, 1) := by decide +kernel
theorem dL_law_1339 : decode cL_law 1339 = .ok (.iconst 5, 1) := by decide +kernel
theorem dL_law_1340 : decode cL_law 1340 = .ok (.iadd, 1) := by decide +kernel
theorem dL_law_1341 : decode cL_law 1341 = .ok (.iaload, 1) := by decide +kernel
theorem dL_law_1342 : decode cL_law 1342 = .ok (.invokevirtual 164, 3) := by decide +kernel
theorem dL_law_1345 : decode cL_law 1345 = .ok (.aload_n 2, 1) := by decide +kernel
theorem dL_law_1346 : decode cL_law 1346 = .ok (.aload_n 0, 1) := by decide +kernel
theorem dL_law_1347 : decode cL_law 1347 = .ok (.iload_n 3, 1) := by decide +kernel
theorem dL_law_1348 : decode cL_law 1348 = .ok (.iconst 1, 1) := by decide +kernel
theorem dL_law_1349 : decode cL_law 1349 = .ok (.iadd, 1) := by decide +kernel
theorem dL_law_1350 : decode cL_law 1350 = .ok (.iaload, 1) := by decide +kernel
theorem dL_law_1351 : decode cL_law 1351 = .ok (.aload_n 0, 1) := by decide +kernel
theorem dL_law_1352 : decode cL_law 1352 = .ok (.iload_n 3, 1) := by decide +kernel
theorem dL_law_1353 : decode cL_law 1353 = .ok (.iconst 2, 1) := by decide +kernel
theorem dL_law_1354 : decode cL_law 1354 = .ok (.iadd, 1) := by decide +kernel
theorem dL_law_1355 : decode cL_law 1355 = .ok (.iaload, 1) := by decide +kernel
theorem dL_law_1356 : decode cL_law 1356 = .ok (.aload_n 0, 1) := by decide +kernel
theorem dL_law_1357 : decode cL_law 1357 = .ok (.iload_n 3, 1) := by decide +kernel
theorem dL_law_1358 : decode cL_law 1358 = .ok (.iconst 3, 1) := by decide +kernel
theorem dL_law_1359 : decode cL_law 1359 = .ok (.iadd, 1) := by decide +kernel
theorem dL_law_1360 : decode cL_law 1360 = .ok (.iaload, 1) := by decide +kernel
theorem dL_law_1361 : decode cL_law 1361 = .ok (.aload_n 0, 1) := by decide +kernel
theorem dL_law_1362 : decode cL_law 1362 = .ok (.iload_n 3, 1) := by decide +kernel
theorem dL_law_1363 : decode cL_law 1363 = .ok (.iconst 4, 1) := by decide +kernel
theorem dL_law_1364 : decode cL_law 1364 = .ok (.iadd, 1) := by decide +kernel
theorem dL_law_1365 : decode cL_law 1365 = .ok (.iaload, 1) := by decide +kernel
theorem dL_law_1366 : decode cL_law 1366 = .ok (.aload_n 0, 1) := by decide +kernel
theorem dL_law_1367 : decode cL_law 1367 = .ok (.iload_n 3, 1) := by decide +kernel
theorem dL_law_1368 : decode cL_law 1368 = .ok (.iconst 5, 1) := by decide +kernel
theorem dL_law_1369 : decode cL_law 1369 = .ok (.iadd, 1) := by decide +kernel
theorem dL_law_1370 : decode cL_law 1370 = .ok (.iaload, 1) := by decide +kernel
theorem dL_law_1371 : decode cL_law 1371 = .ok (.invokevirtual 168, 3) := by decide +kernel
theorem dL_law_1374 : decode cL_law 1374 = .ok (.if_icmp .eq 5, 3) := by decide +kernel
theorem dL_law_1377 : decode cL_law 1377 = .ok (.iconst 0, 1) := by decide +kernel
theorem dL_law_1378 : decode cL_law 1378 = .ok (.ireturn, 1) := by decide +kernel
theorem dL_law_1379 : decode cL_law 1379 = .ok (.iinc 3 6, 3) := by decide +kernel
theorem dL_law_1382 : decode cL_law 1382 = .ok (.goto (-1364), 3) := by decide +kernel
theorem dL_law_1385 : decode cL_law 1385 = .ok (.iconst 1, 1) := by decide +kernel
theorem dL_law_1386 : decode cL_law 1386 = .ok (.ireturn, 1) := by decide +kernel
theorem dX9_init_0 : decode cX9_init 0 = .ok (.aload_n 0, 1) := by decide +kernel
theorem dX9_init_1 : decode cX9_init 1 = .ok (.invokespecial 3, 3) := by decide +kernel
theorem dX9_init_4 : decode cX9_init 4 = .ok (.aload_n 0, 1) := by decide +kernel
theorem dX9_init_5 : decode cX9_init 5 = .ok (.sipush 146, 3) := by decide +kernel
theorem dX9_init_8 : decode cX9_init 8 = .ok (.newarray .int, 2) := by decide +kernel
theorem dX9_init_10 : decode cX9_init 10 = .ok (.putfield 9, 3) := by decide +kernel
theorem dX9_init_13 : decode cX9_init 13 = .ok (.aload_n 0, 1) := by decide +kernel
theorem dX9_init_14 : decode cX9_init 14 = .ok (.sipush 146, 3) := by decide +kernel
theorem dX9_init_17 : decode cX9_init 17 = .ok (.newarray .int, 2) := by decide +kernel
theorem dX9_init_19 : decode cX9_init 19 = .ok (.putfield 15, 3) := by decide +kernel
theorem dX9_init_22 : decode cX9_init 22 = .ok (.aload_n 0, 1) := by decide +kernel
theorem dX9_init_23 : decode cX9_init 23 = .ok (.sipush 146, 3) := by decide +kernel
theorem dX9_init_26 : decode cX9_init 26 = .ok (.newarray .int, 2) := by decide +kernel
theorem dX9_init_28 : decode cX9_init 28 = .ok (.putfield 18, 3) := by decide +kernel
theorem dX9_init_31 : decode cX9_init 31 = .ok (.aload_n 0, 1) := by decide +kernel
theorem dX9_init_32 : decode cX9_init 32 = .ok (.bipush 100, 2) := by decide +kernel
theorem dX9_init_34 : decode cX9_init 34 = .ok (.newarray .int, 2) := by decide +kernel
theorem dX9_init_36 : decode cX9_init 36 = .ok (.putfield 21, 3) := by decide +kernel
theorem dX9_init_39 : decode cX9_init 39 = .ok (.aload_n 0, 1) := by decide +kernel
theorem dX9_init_40 : decode cX9_init 40 = .ok (.sipush 600, 3) := by decide +kernel
theorem dX9_init_43 : decode cX9_init 43 = .ok (.newarray .int, 2) := by decide +kernel
theorem dX9_init_45 : decode cX9_init 45 = .ok (.putfield 24, 3) := by decide +kernel
theorem dX9_init_48 : decode cX9_init 48 = .ok (.aload_n 0, 1) := by decide +kernel
theorem dX9_init_49 : decode cX9_init 49 = .ok (.bipush 6, 2) := by decide +kernel
theorem dX9_init_51 : decode cX9_init 51 = .ok (.newarray .int, 2) := by decide +kernel
theorem dX9_init_53 : decode cX9_init 53 = .ok (.putfield 27, 3) := by decide +kernel
theorem dX9_init_56 : decode cX9_init 56 = .ok (.aload_n 0, 1) := by decide +kernel
theorem dX9_init_57 : decode cX9_init 57 = .ok (.bipush 100, 2) := by decide +kernel
theorem dX9_init_59 : decode cX9_init 59 = .ok (.newarray .int, 2) := by decide +kernel
theorem dX9_init_61 : decode cX9_init 61 = .ok (.putfield 30, 3) := by decide +kernel
theorem dX9_init_64 : decode cX9_init 64 = .ok (.aload_n 0, 1) := by decide +kernel
theorem dX9_init_65 : decode cX9_init 65 = .ok (.bipush 6, 2) := by decide +kernel
theorem dX9_init_67 : decode cX9_init 67 = .ok (.newarray .int, 2) := by decide +kernel
theorem dX9_init_69 : decode cX9_init 69 = .ok (.putfield 33, 3) := by decide +kernel
theorem dX9_init_72 : decode cX9_init 72 = .ok (.aload_n 0, 1) := by decide +kernel
theorem dX9_init_73 : decode cX9_init 73 = .ok (.bipush 6, 2) := by decide +kernel
theorem dX9_init_75 : decode cX9_init 75 = .ok (.newarray .char, 2) := by decide +kernel
theorem dX9_init_77 : decode cX9_init 77 = .ok (.dup, 1) := by decide +kernel
theorem dX9_init_78 : decode cX9_init 78 = .ok (.iconst 0, 1) := by decide +kernel
theorem dX9_init_79 : decode cX9_init 79 = .ok (.bipush 112, 2) := by decide +kernel
theorem dX9_init_81 : decode cX9_init 81 = .ok (.castore, 1) := by decide +kernel
theorem dX9_init_82 : decode cX9_init 82 = .ok (.dup, 1) := by decide +kernel
theorem dX9_init_83 : decode cX9_init 83 = .ok (.iconst 1, 1) := by decide +kernel
theorem dX9_init_84 : decode cX9_init 84 = .ok (.bipush 107, 2) := by decide +kernel
theorem dX9_init_86 : decode cX9_init 86 = .ok (.castore, 1) := by decide +kernel
theorem dX9_init_87 : decode cX9_init 87 = .ok (.dup, 1) := by decide +kernel
theorem dX9_init_88 : decode cX9_init 88 = .ok (.iconst 2, 1) := by decide +kernel
theorem dX9_init_89 : decode cX9_init 89 = .ok (.bipush 118, 2) := by decide +kernel
theorem dX9_init_91 : decode cX9_init 91 = .ok (.castore, 1) := by decide +kernel
theorem dX9_init_92 : decode cX9_init 92 = .ok (.dup, 1) := by decide +kernel
theorem dX9_init_93 : decode cX9_init 93 = .ok (.iconst 3, 1) := by decide +kernel
theorem dX9_init_94 : decode cX9_init 94 = .ok (.bipush 98, 2) := by decide +kernel
theorem dX9_init_96 : decode cX9_init 96 = .ok (.castore, 1) := by decide +kernel
theorem dX9_init_97 : decode cX9_init 97 = .ok (.dup, 1) := by decide +kernel
theorem dX9_init_98 : decode cX9_init 98 = .ok (.iconst 4, 1) := by decide +kernel
theorem dX9_init_99 : decode cX9_init 99 = .ok (.bipush 110, 2) := by decide +kernel
theorem dX9_init_101 : decode cX9_init 101 = .ok (.castore, 1) := by decide +kernel
theorem dX9_init_102 : decode cX9_init 102 = .ok (.dup, 1) := by decide +kernel
theorem dX9_init_103 : decode cX9_init 103 = .ok (.iconst 5, 1) := by decide +kernel
theorem dX9_init_104 : decode cX9_init 104 = .ok (.bipush 104, 2) := by decide +kernel
theorem dX9_init_106 : decode cX9_init 106 = .ok (.castore, 1) := by decide +kernel
theorem dX9_init_107 : decode cX9_init 107 = .ok (.putfield 36, 3) := by decide +kernel
theorem dX9_init_110 : decode cX9_init 110 = .ok (.aload_n 0, 1) := by decide +kernel
theorem dX9_init_111 : decode cX9_init 111 = .ok (.iconst 3, 1) := by decide +kernel
theorem dX9_init_112 : decode cX9_init 112 = .ok (.newarray .char, 2) := by decide +kernel
theorem dX9_init_114 : decode cX9_init 114 = .ok (.dup, 1) := by decide +kernel
theorem dX9_init_115 : decode cX9_init 115 = .ok (.iconst 0, 1) := by decide +kernel
theorem dX9_init_116 : decode cX9_init 116 = .ok (.bipush 103, 2) := by decide +kernel
theorem dX9_init_118 : decode cX9_init 118 = .ok (.castore, 1) := by decide +kernel
theorem dX9_init_119 : decode cX9_init 119 = .ok (.dup, 1) := by decide +kernel
theorem dX9_init_120 : decode cX9_init 120 = .ok (.iconst 1, 1) := by decide +kernel
theorem dX9_init_121 : decode cX9_init 121 = .ok (.bipush 98, 2) := by decide +kernel
theorem dX9_init_123 : decode cX9_init 123 = .ok (.castore, 1) := by decide +kernel
theorem dX9_init_124 : decode cX9_init 124 = .ok (.dup, 1) := by decide +kernel
theorem dX9_init_125 : decode cX9_init 125 = .ok (.iconst 2, 1) := by decide +kernel
theorem dX9_init_126 : decode cX9_init 126 = .ok (.bipush 100, 2) := by decide +kernel
theorem dX9_init_128 : decode cX9_init 128 = .ok (.castore, 1) := by decide +kernel
theorem dX9_init_129 : decode cX9_init 129 = .ok (.putfield 40, 3) := by decide +kernel
theorem dX9_init_132 : decode cX9_init 132 = .ok (.aload_n 0, 1) := by decide +kernel
theorem dX9_init_133 : decode cX9_init 133 = .ok (.bipush 15, 2) := by decide +kernel
theorem dX9_init_135 : decode cX9_init 135 = .ok (.newarray .char, 2) := by decide +kernel
theorem dX9_init_137 : decode cX9_init 137 = .ok (.dup, 1) := by decide +kernel
theorem dX9_init_138 : decode cX9_init 138 = .ok (.iconst 0, 1) := by decide +kernel
theorem dX9_init_139 : decode cX9_init 139 = .ok (.bipush 103, 2) := by decide +kernel
theorem dX9_init_141 : decode cX9_init 141 = .ok (.castore, 1) := by decide +kernel
theorem dX9_init_142 : decode cX9_init 142 = .ok (.dup, 1) := by decide +kernel
theorem dX9_init_143 : decode cX9_init 143 = .ok (.iconst 1, 1) := by decide +kernel
theorem dX9_init_144 : decode cX9_init 144 = .ok (.bipush 114, 2) := by decide +kernel
theorem dX9_init_146 : decode cX9_init 146 = .ok (.castore, 1) := by decide +kernel
theorem dX9_init_147 : decode cX9_init 147 = .ok (.dup, 1) := by decide +kernel
theorem dX9_init_148 : decode cX9_init 148 = .ok (.iconst 2, 1) := by decide +kernel
theorem dX9_init_149 : decode cX9_init 149 = .ok (.bipush 97, 2) := by decide +kernel
theorem dX9_init_151 : decode cX9_init 151 = .ok (.castore, 1) := by decide +kernel
theorem dX9_init_152 : decode cX9_init 152 = .ok (.dup, 1) := by decide +kernel
theorem dX9_init_153 : decode cX9_init 153 = .ok (.iconst 3, 1) := by decide +kernel
theorem dX9_init_154 : decode cX9_init 154 = .ok (.bipush 110, 2) := by decide +kernel
theorem dX9_init_156 : decode cX9_init 156 = .ok (.castore, 1) := by decide +kernel
theorem dX9_init_157 : decode cX9_init 157 = .ok (.dup, 1) := by decide +kernel
theorem dX9_init_158 : decode cX9_init 158 = .ok (.iconst 4, 1) := by decide +kernel
theorem dX9_init_159 : decode cX9_init 159 = .ok (.bipush 116, 2) := by decide +kernel
theorem dX9_init_161 : decode cX9_init 161 = .ok (.castore, 1) := by decide +kernel
theorem dX9_init_162 : decode cX9_init 162 = .ok (.dup, 1) := by decide +kernel
theorem dX9_init_163 : decode cX9_init 163 = .ok (.iconst 5, 1) := by decide +kernel
theorem dX9_init_164 : decode cX9_init 164 = .ok (.bipush 98, 2) := by decide +kernel
theorem dX9_init_166 : decode cX9_init 166 = .ok (.castore, 1) := by decide +kernel
theorem dX9_init_167 : decode cX9_init 167 = .ok (.dup, 1) := by decide +kernel
theorem dX9_init_168 : decode cX9_init 168 = .ok (.bipush 6, 2) := by decide +kernel
theorem dX9_init_170 : decode cX9_init 170 = .ok (.bipush 97, 2) := by decide +kernel
theorem dX9_init_172 : decode cX9_init 172 = .ok (.castore, 1) := by decide +kernel
theorem dX9_init_173 : decode cX9_init 173 = .ok (.dup, 1) := by decide +kernel
theorem dX9_init_174 : decode cX9_init 174 = .ok (.bipush 7, 2) := by decide +kernel
theorem dX9_init_176 : decode cX9_init 176 = .ok (.bipush 114, 2) := by decide +kernel
theorem dX9_init_178 : decode cX9_init 178 = .ok (.castore, 1) := by decide +kernel
theorem dX9_init_179 : decode cX9_init 179 = .ok (.dup, 1) := by decide +kernel
theorem dX9_init_180 : decode cX9_init 180 = .ok (.bipush 8, 2) := by decide +kernel
theorem dX9_init_182 : decode cX9_init 182 = .ok (.iconst 0, 1) := by decide +kernel
theorem dX9_init_183 : decode cX9_init 183 = .ok (.castore, 1) := by decide +kernel
theorem dX9_init_184 : decode cX9_init 184 = .ok (.dup, 1) := by decide +kernel
theorem dX9_init_185 : decode cX9_init 185 = .ok (.bipush 9, 2) := by decide +kernel
theorem dX9_init_187 : decode cX9_init 187 = .ok (.iconst 0, 1) := by decide +kernel
theorem dX9_init_188 : decode cX9_init 188 = .ok (.castore, 1) := by decide +kernel
theorem dX9_init_189 : decode cX9_init 189 = .ok (.dup, 1) := by decide +kernel
theorem dX9_init_190 : decode cX9_init 190 = .ok (.bipush 10, 2) := by decide +kernel
theorem dX9_init_192 : decode cX9_init 192 = .ok (.bipush 100, 2) := by decide +kernel
theorem dX9_init_194 : decode cX9_init 194 = .ok (.castore, 1) := by decide +kernel
theorem dX9_init_195 : decode cX9_init 195 = .ok (.dup, 1) := by decide +kernel
theorem dX9_init_196 : decode cX9_init 196 = .ok (.bipush 11, 2) := by decide +kernel
theorem dX9_init_198 : decode cX9_init 198 = .ok (.bipush 97, 2) := by decide +kernel
theorem dX9_init_200 : decode cX9_init 200 = .ok (.castore, 1) := by decide +kernel
theorem dX9_init_201 : decode cX9_init 201 = .ok (.dup, 1) := by decide +kernel
theorem dX9_init_202 : decode cX9_init 202 = .ok (.bipush 12, 2) := by decide +kernel
theorem dX9_init_204 : decode cX9_init 204 = .ok (.bipush 114, 2) := by decide +kernel
theorem dX9_init_206 : decode cX9_init 206 = .ok (.castore, 1) := by decide +kernel
theorem dX9_init_207 : decode cX9_init 207 = .ok (.dup, 1) := by decide +kernel
theorem dX9_init_208 : decode cX9_init 208 = .ok (.bipush 13, 2) := by decide +kernel
theorem dX9_init_210 : decode cX9_init 210 = .ok (.bipush 107, 2) := by decide +kernel
theorem dX9_init_212 : decode cX9_init 212 = .ok (.castore, 1) := by decide +kernel
theorem dX9_init_213 : decode cX9_init 213 = .ok (.dup, 1) := by decide +kernel
theorem dX9_init_214 : decode cX9_init 214 = .ok (.bipush 14, 2) := by decide +kernel
theorem dX9_init_216 : decode cX9_init 216 = .ok (.iconst 0, 1) := by decide +kernel
theorem dX9_init_217 : decode cX9_init 217 = .ok (.castore, 1) := by decide +kernel
theorem dX9_init_218 : decode cX9_init 218 = .ok (.putfield 43, 3) := by decide +kernel
theorem dX9_init_221 : decode cX9_init 221 = .ok (.aload_n 0, 1) := by decide +kernel
theorem dX9_init_222 : decode cX9_init 222 = .ok (.bipush 9, 2) := by decide +kernel
theorem dX9_init_224 : decode cX9_init 224 = .ok (.newarray .int, 2) := by decide +kernel
theorem dX9_init_226 : decode cX9_init 226 = .ok (.putfield 46, 3) := by decide +kernel
theorem dX9_init_229 : decode cX9_init 229 = .ok (.aload_n 0, 1) := by decide +kernel
theorem dX9_init_230 : decode cX9_init 230 = .ok (.sipush 1536, 3) := by decide +kernel
theorem dX9_init_233 : decode cX9_init 233 = .ok (.newarray .boolean, 2) := by decide +kernel
theorem dX9_init_235 : decode cX9_init 235 = .ok (.putfield 49, 3) := by decide +kernel
theorem dX9_init_238 : decode cX9_init 238 = .ok (.aload_n 0, 1) := by decide +kernel
theorem dX9_init_239 : decode cX9_init 239 = .ok (.sipush 1536, 3) := by decide +kernel
theorem dX9_init_242 : decode cX9_init 242 = .ok (.newarray .int, 2) := by decide +kernel
theorem dX9_init_244 : decode cX9_init 244 = .ok (.putfield 53, 3) := by decide +kernel
theorem dX9_init_247 : decode cX9_init 247 = .ok (.aload_n 0, 1) := by decide +kernel
theorem dX9_init_248 : decode cX9_init 248 = .ok (.sipush 1536, 3) := by decide +kernel
theorem dX9_init_251 : decode cX9_init 251 = .ok (.newarray .int, 2) := by decide +kernel
theorem dX9_init_253 : decode cX9_init 253 = .ok (.putfield 56, 3) := by decide +kernel
theorem dX9_init_256 : decode cX9_init 256 = .ok (.aload_n 0, 1) := by decide +kernel
theorem dX9_init_257 : decode cX9_init 257 = .ok (.sipush 1536, 3) := by decide +kernel
theorem dX9_init_260 : decode cX9_init 260 = .ok (.newarray .int, 2) := by decide +kernel
theorem dX9_init_262 : decode cX9_init 262 = .ok (.putfield 59, 3) := by decide +kernel
theorem dX9_init_265 : decode cX9_init 265 = .ok (.aload_n 0, 1) := by decide +kernel
theorem dX9_init_266 : decode cX9_init 266 = .ok (.sipush 1536, 3) := by decide +kernel
theorem dX9_init_269 : decode cX9_init 269 = .ok (.newarray .int, 2) := by decide +kernel
theorem dX9_init_271 : decode cX9_init 271 = .ok (.putfield 62, 3) := by decide +kernel
theorem dX9_init_274 : decode cX9_init 274 = .ok (.aload_n 0, 1) := by decide +kernel
theorem dX9_init_275 : decode cX9_init 275 = .ok (.bipush 12, 2) := by decide +kernel
theorem dX9_init_277 : decode cX9_init 277 = .ok (.newarray .int, 2) := by decide +kernel
theorem dX9_init_279 : decode cX9_init 279 = .ok (.putfield 65, 3) := by decide +kernel
theorem dX9_init_282 : decode cX9_init 282 = .ok (.aload_n 0, 1) := by decide +kernel
theorem dX9_init_283 : decode cX9_init 283 = .ok (.bipush 7, 2) := by decide +kernel
theorem dX9_init_285 : decode cX9_init 285 = .ok (.newarray .int, 2) := by decide +kernel
theorem dX9_init_287 : decode cX9_init 287 = .ok (.dup, 1) := by decide +kernel
theorem dX9_init_288 : decode cX9_init 288 = .ok (.iconst 0, 1) := by decide +kernel
theorem dX9_init_289 : decode cX9_init 289 = .ok (.iconst (-1), 1) := by decide +kernel
theorem dX9_init_290 : decode cX9_init 290 = .ok (.iastore, 1) := by decide +kernel
theorem dX9_init_291 : decode cX9_init 291 = .ok (.dup, 1) := by decide +kernel
theorem dX9_init_292 : decode cX9_init 292 = .ok (.iconst 1, 1) := by decide +kernel
theorem dX9_init_293 : decode cX9_init 293 = .ok (.iconst 0, 1) := by decide +kernel
theorem dX9_init_294 : decode cX9_init 294 = .ok (.iastore, 1) := by decide +kernel
theorem dX9_init_295 : decode cX9_init 295 = .ok (.dup, 1) := by decide +kernel
theorem dX9_init_296 : decode cX9_init 296 = .ok (.iconst 2, 1) := by decide +kernel
theorem dX9_init_297 : decode cX9_init 297 = .ok (.iconst 0, 1) := by decide +kernel
theorem dX9_init_298 : decode cX9_init 298 = .ok (.iastore, 1) := by decide +kernel
theorem dX9_init_299 : decode cX9_init 299 = .ok (.dup, 1) := by decide +kernel
theorem dX9_init_300 : decode cX9_init 300 = .ok (.iconst 3, 1) := by decide +kernel
theorem dX9_init_301 : decode cX9_init 301 = .ok (.iconst 0, 1) := by decide +kernel
theorem dX9_init_302 : decode cX9_init 302 = .ok (.iastore, 1) := by decide +kernel
theorem dX9_init_303 : decode cX9_init 303 = .ok (.dup, 1) := by decide +kernel
theorem dX9_init_304 : decode cX9_init 304 = .ok (.iconst 4, 1) := by decide +kernel
theorem dX9_init_305 : decode cX9_init 305 = .ok (.iconst 1, 1) := by decide +kernel
theorem dX9_init_306 : decode cX9_init 306 = .ok (.iastore, 1) := by decide +kernel
theorem dX9_init_307 : decode cX9_init 307 = .ok (.dup, 1) := by decide +kernel
theorem dX9_init_308 : decode cX9_init 308 = .ok (.iconst 5, 1) := by decide +kernel
theorem dX9_init_309 : decode cX9_init 309 = .ok (.iconst 2, 1) := by decide +kernel
theorem dX9_init_310 : decode cX9_init 310 = .ok (.iastore, 1) := by decide +kernel
theorem dX9_init_311 : decode cX9_init 311 = .ok (.dup, 1) := by decide +kernel
theorem dX9_init_312 : decode cX9_init 312 = .ok (.bipush 6, 2) := by decide +kernel
theorem dX9_init_314 : decode cX9_init 314 = .ok (.iconst 3, 1) := by decide +kernel
theorem dX9_init_315 : decode cX9_init 315 = .ok (.iastore, 1) := by decide +kernel
theorem dX9_init_316 : decode cX9_init 316 = .ok (.putfield 68, 3) := by decide +kernel
theorem dX9_init_319 : decode cX9_init 319 = .ok (.aload_n 0, 1) := by decide +kernel
theorem dX9_init_320 : decode cX9_init 320 = .ok (.bipush 21, 2) := by decide +kernel
theorem dX9_init_322 : decode cX9_init 322 = .ok (.newarray .int, 2) := by decide +kernel
theorem dX9_init_324 : decode cX9_init 324 = .ok (.dup, 1) := by decide +kernel
theorem dX9_init_325 : decode cX9_init 325 = .ok (.iconst 0, 1) := by decide +kernel
theorem dX9_init_326 : decode cX9_init 326 = .ok (.bipush 10, 2) := by decide +kernel
theorem dX9_init_328 : decode cX9_init 328 = .ok (.iastore, 1) := by decide +kernel
theorem dX9_init_329 : decode cX9_init 329 = .ok (.dup, 1) := by decide +kernel
theorem dX9_init_330 : decode cX9_init 330 = .ok (.iconst 1, 1) := by decide +kernel
theorem dX9_init_331 : decode cX9_init 331 = .ok (.bipush 11, 2) := by decide +kernel
theorem dX9_init_333 : decode cX9_init 333 = .ok (.iastore, 1) := by decide +kernel
theorem dX9_init_334 : decode cX9_init 334 = .ok (.dup, 1) := by decide +kernel
theorem dX9_init_335 : decode cX9_init 335 = .ok (.iconst 2, 1) := by decide +kernel
theorem dX9_init_336 : decode cX9_init 336 = .ok (.bipush 12, 2) := by decide +kernel
theorem dX9_init_338 : decode cX9_init 338 = .ok (.iastore, 1) := by decide +kernel
theorem dX9_init_339 : decode cX9_init 339 = .ok (.dup, 1) := by decide +kernel
theorem dX9_init_340 : decode cX9_init 340 = .ok (.iconst 3, 1) := by decide +kernel
theorem dX9_init_341 : decode cX9_init 341 = .ok (.iconst 0, 1) := by decide +kernel
theorem dX9_init_342 : decode cX9_init 342 = .ok (.iastore, 1) := by decide +kernel
theorem dX9_init_343 : decode cX9_init 343 = .ok (.dup, 1) := by decide +kernel
theorem dX9_init_344 : decode cX9_init 344 = .ok (.iconst 4, 1) := by decide +kernel
theorem dX9_init_345 : decode cX9_init 345 = .ok (.bipush 20, 2) := by decide +kernel
theorem dX9_init_347 : decode cX9_init 347 = .ok (.iastore, 1) := by decide +kernel
theorem dX9_init_348 : decode cX9_init 348 = .ok (.dup, 1) := by decide +kernel
theorem dX9_init_349 : decode cX9_init 349 = .ok (.iconst 5, 1) := by decide +kernel
theorem dX9_init_350 : decode cX9_init 350 = .ok (.iconst 0, 1) := by decide +kernel
theorem dX9_init_351 : decode cX9_init 351 = .ok (.iastore, 1) := by decide +kernel
theorem dX9_init_352 : decode cX9_init 352 = .ok (.dup, 1) := by decide +kernel
theorem dX9_init_353 : decode cX9_init 353 = .ok (.bipush 6, 2) := by decide +kernel
theorem dX9_init_355 : decode cX9_init 355 = .ok (.bipush 30, 2) := by decide +kernel
theorem dX9_init_357 : decode cX9_init 357 = .ok (.iastore, 1) := by decide +kernel
theorem dX9_init_358 : decode cX9_init 358 = .ok (.dup, 1) := by decide +kernel
theorem dX9_init_359 : decode cX9_init 359 = .ok (.bipush 7, 2) := by decide +kernel
theorem dX9_init_361 : decode cX9_init 361 = .ok (.iconst 0, 1) := by decide +kernel
theorem dX9_init_362 : decode cX9_init 362 = .ok (.iastore, 1) := by decide +kernel
theorem dX9_init_363 : decode cX9_init 363 = .ok (.dup, 1) := by decide +kernel
theorem dX9_init_364 : decode cX9_init 364 = .ok (.bipush 8, 2) := by decide +kernel
theorem dX9_init_366 : decode cX9_init 366 = .ok (.iconst 0, 1) := by decide +kernel
theorem dX9_init_367 : decode cX9_init 367 = .ok (.iastore, 1) := by decide +kernel
theorem dX9_init_368 : decode cX9_init 368 = .ok (.dup, 1) := by decide +kernel
theorem dX9_init_369 : decode cX9_init 369 = .ok (.bipush 9, 2) := by decide +kernel
theorem dX9_init_371 : decode cX9_init 371 = .ok (.iconst 0, 1) := by decide +kernel
theorem dX9_init_372 : decode cX9_init 372 = .ok (.iastore, 1) := by decide +kernel
theorem dX9_init_373 : decode cX9_init 373 = .ok (.dup, 1) := by decide +kernel
theorem dX9_init_374 : decode cX9_init 374 = .ok (.bipush 10, 2) := by decide +kernel
theorem dX9_init_376 : decode cX9_init 376 = .ok (.iconst 0, 1) := by decide +kernel
theorem dX9_init_377 : decode cX9_init 377 = .ok (.iastore, 1) := by decide +kernel
theorem dX9_init_378 : decode cX9_init 378 = .ok (.dup, 1) := by decide +kernel
theorem dX9_init_379 : decode cX9_init 379 = .ok (.bipush 11, 2) := by decide +kernel
theorem dX9_init_381 : decode cX9_init 381 = .ok (.bipush 40, 2) := by decide +kernel
theorem dX9_init_383 : decode cX9_init 383 = .ok (.iastore, 1) := by decide +kernel
theorem dX9_init_384 : decode cX9_init 384 = .ok (.dup, 1) := by decide +kernel
theorem dX9_init_385 : decode cX9_init 385 = .ok (.bipush 12, 2) := by decide +kernel
theorem dX9_init_387 : decode cX9_init 387 = .ok (.bipush 50, 2) := by decide +kernel
theorem dX9_init_389 : decode cX9_init 389 = .ok (.iastore, 1) := by decide +kernel
theorem dX9_init_390 : decode cX9_init 390 = .ok (.dup, 1) := by decide +kernel
theorem dX9_init_391 : decode cX9_init 391 = .ok (.bipush 13, 2) := by decide +kernel
theorem dX9_init_393 : decode cX9_init 393 = .ok (.bipush 51, 2) := by decide +kernel
theorem dX9_init_395 : decode cX9_init 395 = .ok (.iastore, 1) := by decide +kernel
theorem dX9_init_396 : decode cX9_init 396 = .ok (.dup, 1) := by decide +kernel
theorem dX9_init_397 : decode cX9_init 397 = .ok (.bipush 14, 2) := by decide +kernel
theorem dX9_init_399 : decode cX9_init 399 = .ok (.iconst 0, 1) := by decide +kernel
theorem dX9_init_400 : decode cX9_init 400 = .ok (.iastore, 1) := by decide +kernel
theorem dX9_init_401 : decode cX9_init 401 = .ok (.dup, 1) := by decide +kernel
theorem dX9_init_402 : decode cX9_init 402 = .ok (.bipush 15, 2) := by decide +kernel
theorem dX9_init_404 : decode cX9_init 404 = .ok (.iconst 0, 1) := by decide +kernel
theorem dX9_init_405 : decode cX9_init 405 = .ok (.iastore, 1) := by decide +kernel
theorem dX9_init_406 : decode cX9_init 406 = .ok (.dup, 1) := by decide +kernel
theorem dX9_init_407 : decode cX9_init 407 = .ok (.bipush 16, 2) := by decide +kernel
theorem dX9_init_409 : decode cX9_init 409 = .ok (.iconst 0, 1) := by decide +kernel
theorem dX9_init_410 : decode cX9_init 410 = .ok (.iastore, 1) := by decide +kernel
theorem dX9_init_411 : decode cX9_init 411 = .ok (.dup, 1) := by decide +kernel
theorem dX9_init_412 : decode cX9_init 412 = .ok (.bipush 17, 2) := by decide +kernel
theorem dX9_init_414 : decode cX9_init 414 = .ok (.bipush 60, 2) := by decide +kernel
theorem dX9_init_416 : decode cX9_init 416 = .ok (.iastore, 1) := by decide +kernel
theorem dX9_init_417 : decode cX9_init 417 = .ok (.dup, 1) := by decide +kernel
theorem dX9_init_418 : decode cX9_init 418 = .ok (.bipush 18, 2) := by decide +kernel
theorem dX9_init_420 : decode cX9_init 420 = .ok (.bipush 71, 2) := by decide +kernel
theorem dX9_init_422 : decode cX9_init 422 = .ok (.iastore, 1) := by decide +kernel
theorem dX9_init_423 : decode cX9_init 423 = .ok (.dup, 1) := by decide +kernel
theorem dX9_init_424 : decode cX9_init 424 = .ok (.bipush 19, 2) := by decide +kernel
theorem dX9_init_426 : decode cX9_init 426 = .ok (.bipush 70, 2) := by decide +kernel
theorem dX9_init_428 : decode cX9_init 428 = .ok (.iastore, 1) := by decide +kernel
theorem dX9_init_429 : decode cX9_init 429 = .ok (.dup, 1) := by decide +kernel
theorem dX9_init_430 : decode cX9_init 430 = .ok (.bipush 20, 2) := by decide +kernel
theorem dX9_init_432 : decode cX9_init 432 = .ok (.iconst 0, 1) := by decide +kernel
theorem dX9_init_433 : decode cX9_init 433 = .ok (.iastore, 1) := by decide +kernel
theorem dX9_init_434 : decode cX9_init 434 = .ok (.putfield 71, 3) := by decide +kernel
theorem dX9_init_437 : decode cX9_init 437 = .ok (.aload_n 0, 1) := by decide +kernel
theorem dX9_init_438 : decode cX9_init 438 = .ok (.bipush 20, 2) := by decide +kernel
theorem dX9_init_440 : decode cX9_init 440 = .ok (.newarray .int, 2) := by decide +kernel
theorem dX9_init_442 : decode cX9_init 442 = .ok (.putfield 74, 3) := by decide +kernel
theorem dX9_init_445 : decode cX9_init 445 = .ok (.aload_n 0, 1) := by decide +kernel
theorem dX9_init_446 : decode cX9_init 446 = .ok (.bipush 6, 2) := by decide +kernel
theorem dX9_init_448 : decode cX9_init 448 = .ok (.newarray .int, 2) := by decide +kernel
theorem dX9_init_450 : decode cX9_init 450 = .ok (.dup, 1) := by decide +kernel
theorem dX9_init_451 : decode cX9_init 451 = .ok (.iconst 0, 1) := by decide +kernel
theorem dX9_init_452 : decode cX9_init 452 = .ok (.iconst (-1), 1) := by decide +kernel
theorem dX9_init_453 : decode cX9_init 453 = .ok (.iastore, 1) := by decide +kernel
theorem dX9_init_454 : decode cX9_init 454 = .ok (.dup, 1) := by decide +kernel
theorem dX9_init_455 : decode cX9_init 455 = .ok (.iconst 1, 1) := by decide +kernel
theorem dX9_init_456 : decode cX9_init 456 = .ok (.iconst (-1), 1) := by decide +kernel
theorem dX9_init_457 : decode cX9_init 457 = .ok (.iastore, 1) := by decide +kernel
theorem dX9_init_458 : decode cX9_init 458 = .ok (.dup, 1) := by decide +kernel
theorem dX9_init_459 : decode cX9_init 459 = .ok (.iconst 2, 1) := by decide +kernel
theorem dX9_init_460 : decode cX9_init 460 = .ok (.iconst (-1), 1) := by decide +kernel
theorem dX9_init_461 : decode cX9_init 461 = .ok (.iastore, 1) := by decide +kernel
theorem dX9_init_462 : decode cX9_init 462 = .ok (.dup, 1) := by decide +kernel
theorem dX9_init_463 : decode cX9_init 463 = .ok (.iconst 3, 1) := by decide +kernel
theorem dX9_init_464 : decode cX9_init 464 = .ok (.iconst (-1), 1) := by decide +kernel
theorem dX9_init_465 : decode cX9_init 465 = .ok (.iastore, 1) := by decide +kernel
theorem dX9_init_466 : decode cX9_init 466 = .ok (.dup, 1) := by decide +kernel
theorem dX9_init_467 : decode cX9_init 467 = .ok (.iconst 4, 1) := by decide +kernel
theorem dX9_init_468 : decode cX9_init 468 = .ok (.iconst (-1), 1) := by decide +kernel
theorem dX9_init_469 : decode cX9_init 469 = .ok (.iastore, 1) := by decide +kernel
theorem dX9_init_470 : decode cX9_init 470 = .ok (.dup, 1) := by decide +kernel
theorem dX9_init_471 : decode cX9_init 471 = .ok (.iconst 5, 1) := by decide +kernel
theorem dX9_init_472 : decode cX9_init 472 = .ok (.iconst (-1), 1) := by decide +kernel
theorem dX9_init_473 : decode cX9_init 473 = .ok (.iastore, 1) := by decide +kernel
theorem dX9_init_474 : decode cX9_init 474 = .ok (.putfield 77, 3) := by decide +kernel
theorem dX9_init_477 : decode cX9_init 477 = .ok (.aload_n 0, 1) := by decide +kernel
theorem dX9_init_478 : decode cX9_init 478 = .ok (.bipush 6, 2) := by decide +kernel
theorem dX9_init_480 : decode cX9_init 480 = .ok (.newarray .int, 2) := by decide +kernel
theorem dX9_init_482 : decode cX9_init 482 = .ok (.putfield 80, 3) := by decide +kernel
theorem dX9_init_485 : decode cX9_init 485 = .ok (.aload_n 0, 1) := by decide +kernel
theorem dX9_init_486 : decode cX9_init 486 = .ok (.sipush 360, 3) := by decide +kernel
theorem dX9_init_489 : decode cX9_init 489 = .ok (.newarray .long, 2) := by decide +kernel
theorem dX9_init_491 : decode cX9_init 491 = .ok (.putfield 83, 3) := by decide +kernel
theorem dX9_init_494 : decode cX9_init 494 = .ok (.aload_n 0, 1) := by decide +kernel
theorem dX9_init_495 : decode cX9_init 495 = .ok (.bipush 60, 2) := by decide +kernel
theorem dX9_init_497 : decode cX9_init 497 = .ok (.newarray .long, 2) := by decide +kernel
theorem dX9_init_499 : decode cX9_init 499 = .ok (.putfield 87, 3) := by decide +kernel
theorem dX9_init_502 : decode cX9_init 502 = .ok (.return_, 1) := by decide +kernel
theorem dX9_isIn_0 : decode cX9_isIn 0 = .ok (.iload_n 0, 1) := by decide +kernel
theorem dX9_isIn_1 : decode cX9_isIn 1 = .ok (.iload_n 1, 1) := by decide +kernel
theorem dX9_isIn_2 : decode cX9_isIn 2 = .ok (.if_icmp .lt 12, 3) := by decide +kernel
theorem dX9_isIn_5 : decode cX9_isIn 5 = .ok (.iload_n 0, 1) := by decide +kernel
theorem dX9_isIn_6 : decode cX9_isIn 6 = .ok (.iload_n 2, 1) := by decide +kernel
theorem dX9_isIn_7 : decode cX9_isIn 7 = .ok (.if_icmp .gt 7, 3) := by decide +kernel
theorem dX9_isIn_10 : decode cX9_isIn 10 = .ok (.iconst 1, 1) := by decide +kernel
theorem dX9_isIn_11 : decode cX9_isIn 11 = .ok (.goto 4, 3) := by decide +kernel
theorem dX9_isIn_14 : decode cX9_isIn 14 = .ok (.iconst 0, 1) := by decide +kernel
theorem dX9_isIn_15 : decode cX9_isIn 15 = .ok (.ireturn, 1) := by decide +kernel
theorem dX9_move_0 : decode cX9_move 0 = .ok (.iconst 0, 1) := by decide +kernel
theorem dX9_move_1 : decode cX9_move 1 = .ok (.istore_n 2, 1) := by decide +kernel
theorem dX9_move_2 : decode cX9_move 2 = .ok (.iload_n 2, 1) := by decide +kernel
theorem dX9_move_3 : decode cX9_move 3 = .ok (.sipush 146, 3) := by decide +kernel
theorem dX9_move_6 : decode cX9_move 6 = .ok (.if_icmp .ge 15, 3) := by decide +kernel
theorem dX9_move_9 : decode cX9_move 9 = .ok (.aload_n 1, 1) := by decide +kernel
theorem dX9_move_10 : decode cX9_move 10 = .ok (.iload_n 2, 1) := by decide +kernel
theorem dX9_move_11 : decode cX9_move 11 = .ok (.aload_n 0, 1) := by decide +kernel
theorem dX9_move_12 : decode cX9_move 12 = .ok (.iload_n 2, 1) := by decide +kernel
theorem dX9_move_13 : decode cX9_move 13 = .ok (.iaload, 1) := by decide +kernel
theorem dX9_move_14 : decode cX9_move 14 = .ok (.iastore, 1) := by decide +kernel
theorem dX9_move_15 : decode cX9_move 15 = .ok (.iinc 2 1, 3) := by decide +kernel
theorem dX9_move_18 : decode cX9_move 18 = .ok (.goto (-16), 3) := by decide +kernel
theorem dX9_move_21 : decode cX9_move 21 = .ok (.return_, 1) := by decide +kernel
theorem dX9_image_0 : decode cX9_image 0 = .ok (.aload_n 0, 1) := by decide +kernel
theorem dX9_image_1 : decode cX9_image 1 = .ok (.iconst 1, 1) := by decide +kernel
theorem dX9_image_2 : decode cX9_image 2 = .ok (.putfield 90, 3) := by decide +kernel
theorem dX9_image_5 : decode cX9_image 5 = .ok (.aload_n 0, 1) := by decide +kernel
theorem dX9_image_6 : decode cX9_image 6 = .ok (.getfield 9, 3) := by decide +kernel
theorem dX9_image_9 : decode cX9_image 9 = .ok (.aload_n 0, 1) := by decide +kernel
theorem dX9_image_10 : decode cX9_image 10 = .ok (.getfield 18, 3) := by decide +kernel
theorem dX9_image_13 : decode cX9_image 13 = .ok (.invokestatic 94, 3) := by decide +kernel
theorem dX9_image_16 : decode cX9_image 16 = .ok (.aload_n 0, 1) := by decide +kernel
theorem dX9_image_17 : decode cX9_image 17 = .ok (.getfield 9, 3) := by decide +kernel
theorem dX9_image_20 : decode cX9_image 20 = .ok (.bipush 92, 2) := by decide +kernel
theorem dX9_image_22 : decode cX9_image 22 = .ok (.iaload, 1) := by decide +kernel
theorem dX9_image_23 : decode cX9_image 23 = .ok (.ireturn, 1) := by decide +kernel
theorem dX9_undo_0 : decode cX9_undo 0 = .ok (.aload_n 0, 1) := by decide +kernel
theorem dX9_undo_1 : decode cX9_undo 1 = .ok (.getfield 90, 3) := by decide +kernel
theorem dX9_undo_4 : decode cX9_undo 4 = .ok (.ifCond .ne 6, 3) := by decide +kernel
theorem dX9_undo_7 : decode cX9_undo 7 = .ok (.bipush (-3), 2) := by decide +kernel
theorem dX9_undo_9 : decode cX9_undo 9 = .ok (.ireturn, 1) := by decide +kernel
theorem dX9_undo_10 : decode cX9_undo 10 = .ok (.aload_n 0, 1) := by decide +kernel
theorem dX9_undo_11 : decode cX9_undo 11 = .ok (.getfield 18, 3) := by decide +kernel
theorem dX9_undo_14 : decode cX9_undo 14 = .ok (.aload_n 0, 1) := by decide +kernel
theorem dX9_undo_15 : decode cX9_undo 15 = .ok (.getfield 9, 3) := by decide +kernel
theorem dX9_undo_18 : decode cX9_undo 18 = .ok (.invokestatic 94, 3) := by decide +kernel
theorem dX9_undo_21 : decode cX9_undo 21 = .ok (.aload_n 0, 1) := by decide +kernel
theorem dX9_undo_22 : decode cX9_undo 22 = .ok (.getfield 9, 3) := by decide +kernel
theorem dX9_undo_25 : decode cX9_undo 25 = .ok (.bipush 92, 2) := by decide +kernel
theorem dX9_undo_27 : decode cX9_undo 27 = .ok (.iaload, 1) := by decide +kernel
theorem dX9_undo_28 : decode cX9_undo 28 = .ok (.ireturn, 1) := by decide +kernel
theorem dX9_isQuarter_0 : decode cX9_isQuarter 0 = .ok (.iload_n 0, 1) := by decide +kernel
theorem dX9_isQuarter_1 : decode cX9_isQuarter 1 = .ok (.iconst 0, 1) := by decide +kernel
theorem dX9_isQuarter_2 : decode cX9_isQuarter 2 = .ok (.iconst 5, 1) := by decide +kernel
theorem dX9_isQuarter_3 : decode cX9_isQuarter 3 = .ok (.invokestatic 98, 3) := by decide +kernel
theorem dX9_isQuarter_6 : decode cX9_isQuarter 6 = .ok (.ireturn, 1) := by decide +kernel
theorem dX9_isBridge_0 : decode cX9_isBridge 0 = .ok (.iload_n 1, 1) := by decide +kernel
theorem dX9_isBridge_1 : decode cX9_isBridge 1 = .ok (.iconst 0, 1) := by decide +kernel
theorem dX9_isBridge_2 : decode cX9_isBridge 2 = .ok (.aload_n 0, 1) := by decide +kernel
theorem dX9_isBridge_3 : decode cX9_isBridge 3 = .ok (.getfield 9, 3) := by decide +kernel
theorem dX9_isBridge_6 : decode cX9_isBridge 6 = .ok (.bipush 93, 2) := by decide +kernel
theorem dX9_isBridge_8 : decode cX9_isBridge 8 = .ok (.iaload, 1) := by decide +kernel
theorem dX9_isBridge_9 : decode cX9_isBridge 9 = .ok (.iconst 1, 1) := by decide +kernel
theorem dX9_isBridge_10 : decode cX9_isBridge 10 = .ok (.isub, 1) := by decide +kernel
theorem dX9_isBridge_11 : decode cX9_isBridge 11 = .ok (.invokestatic 98, 3) := by decide +kernel
theorem dX9_isBridge_14 : decode cX9_isBridge 14 = .ok (.ireturn, 1) := by decide +kernel
theorem dX9_isOne_0 : decode cX9_isOne 0 = .ok (.iload_n 1, 1) := by decide +kernel
theorem dX9_isOne_1 : decode cX9_isOne 1 = .ok (.iconst 0, 1) := by decide +kernel
theorem dX9_isOne_2 : decode cX9_isOne 2 = .ok (.aload_n 0, 1) := by decide +kernel
theorem dX9_isOne_3 : decode cX9_isOne 3 = .ok (.getfield 9, 3) := by decide +kernel
theorem dX9_isOne_6 : decode cX9_isOne 6 = .ok (.bipush 92, 2) := by decide +kernel
theorem dX9_isOne_8 : decode cX9_isOne 8 = .ok (.iaload, 1) := by decide +kernel
theorem dX9_isOne_9 : decode cX9_isOne 9 = .ok (.iconst 1, 1) := by decide +kernel
theorem dX9_isOne_10 : decode cX9_isOne 10 = .ok (.isub, 1) := by decide +kernel
theorem dX9_isOne_11 : decode cX9_isOne 11 = .ok (.invokestatic 98, 3) := by decide +kernel
theorem dX9_isOne_14 : decode cX9_isOne 14 = .ok (.ireturn, 1) := by decide +kernel
theorem dX9_one_0 : decode cX9_one 0 = .ok (.aload_n 0, 1) := by decide +kernel
theorem dX9_one_1 : decode cX9_one 1 = .ok (.getfield 9, 3) := by decide +kernel
theorem dX9_one_4 : decode cX9_one 4 = .ok (.bipush 32, 2) := by decide +kernel
theorem dX9_one_6 : decode cX9_one 6 = .ok (.bipush 10, 2) := by decide +kernel
theorem dX9_one_8 : decode cX9_one 8 = .ok (.iload_n 1, 1) := by decide +kernel
theorem dX9_one_9 : decode cX9_one 9 = .ok (.imul, 1) := by decide +kernel
theorem dX9_one_10 : decode cX9_one 10 = .ok (.iadd, 1) := by decide +kernel
theorem dX9_one_11 : decode cX9_one 11 = .ok (.iload_n 2, 1) := by decide +kernel
theorem dX9_one_12 : decode cX9_one 12 = .ok (.iadd, 1) := by decide +kernel
theorem dX9_one_13 : decode cX9_one 13 = .ok (.iaload, 1) := by decide +kernel
theorem dX9_one_14 : decode cX9_one 14 = .ok (.ireturn, 1) := by decide +kernel
theorem dX9_change_0 : decode cX9_change 0 = .ok (.aload_n 0, 1) := by decide +kernel
theorem dX9_change_1 : decode cX9_change 1 = .ok (.iload_n 1, 1) := by decide +kernel
theorem dX9_change_2 : decode cX9_change 2 = .ok (.iload_n 2, 1) := by decide +kernel
theorem dX9_change_3 : decode cX9_change 3 = .ok (.invokevirtual 102, 3) := by decide +kernel
theorem dX9_change_6 : decode cX9_change 6 = .ok (.istore 4, 2) := by decide +kernel
theorem dX9_change_8 : decode cX9_change 8 = .ok (.aload_n 0, 1) := by decide +kernel
theorem dX9_change_9 : decode cX9_change 9 = .ok (.getfield 9, 3) := by decide +kernel
theorem dX9_change_12 : decode cX9_change 12 = .ok (.bipush 32, 2) := by decide +kernel
theorem dX9_change_14 : decode cX9_change 14 = .ok (.bipush 10, 2) := by decide +kernel
theorem dX9_change_16 : decode cX9_change 16 = .ok (.iload_n 1, 1) := by decide +kernel
theorem dX9_change_17 : decode cX9_change 17 = .ok (.imul, 1) := by decide +kernel
theorem dX9_change_18 : decode cX9_change 18 = .ok (.iadd, 1) := by decide +kernel
theorem dX9_change_19 : decode cX9_change 19 = .ok (.iload_n 2, 1) := by decide +kernel
theorem dX9_change_20 : decode cX9_change 20 = .ok (.iadd, 1) := by decide +kernel
theorem dX9_change_21 : decode cX9_change 21 = .ok (.iload_n 3, 1) := by decide +kernel
theorem dX9_change_22 : decode cX9_change 22 = .ok (.iastore, 1) := by decide +kernel
theorem dX9_change_23 : decode cX9_change 23 = .ok (.iload 4, 2) := by decide +kernel
theorem dX9_change_25 : decode cX9_change 25 = .ok (.ireturn, 1) := by decide +kernel
theorem dX9_end_0 : decode cX9_end 0 = .ok (.aload_n 0, 1) := by decide +kernel
theorem dX9_end_1 : decode cX9_end 1 = .ok (.getfield 9, 3) := by decide +kernel
theorem dX9_end_4 : decode cX9_end 4 = .ok (.iconst 4, 1) := by decide +kernel
theorem dX9_end_5 : decode cX9_end 5 = .ok (.iload_n 1, 1) := by decide +kernel
theorem dX9_end_6 : decode cX9_end 6 = .ok (.imul, 1) := by decide +kernel
theorem dX9_end_7 : decode cX9_end 7 = .ok (.iload_n 2, 1) := by decide +kernel
theorem dX9_end_8 : decode cX9_end 8 = .ok (.iadd, 1) := by decide +kernel
theorem dX9_end_9 : decode cX9_end 9 = .ok (.iaload, 1) := by decide +kernel
theorem dX9_end_10 : decode cX9_end 10 = .ok (.ireturn, 1) := by decide +kernel
theorem dX9_sister_0 : decode cX9_sister 0 = .ok (.aload_n 0, 1) := by decide +kernel
theorem dX9_sister_1 : decode cX9_sister 1 = .ok (.getfield 9, 3) := by decide +kernel
theorem dX9_sister_4 : decode cX9_sister 4 = .ok (.iconst 4, 1) := by decide +kernel
theorem dX9_sister_5 : decode cX9_sister 5 = .ok (.iload_n 1, 1) := by decide +kernel
theorem dX9_sister_6 : decode cX9_sister 6 = .ok (.imul, 1) := by decide +kernel
theorem dX9_sister_7 : decode cX9_sister 7 = .ok (.iconst 2, 1) := by decide +kernel
theorem dX9_sister_8 : decode cX9_sister 8 = .ok (.iadd, 1) := by decide +kernel
theorem dX9_sister_9 : decode cX9_sister 9 = .ok (.iaload, 1) := by decide +kernel
theorem dX9_sister_10 : decode cX9_sister 10 = .ok (.ireturn, 1) := by decide +kernel
theorem dX9_isLost_0 : decode cX9_isLost 0 = .ok (.aload_n 0, 1) := by decide +kernel
theorem dX9_isLost_1 : decode cX9_isLost 1 = .ok (.getfield 9, 3) := by decide +kernel
theorem dX9_isLost_4 : decode cX9_isLost 4 = .ok (.iconst 4, 1) := by decide +kernel
theorem dX9_isLost_5 : decode cX9_isLost 5 = .ok (.iload_n 1, 1) := by decide +kernel
theorem dX9_isLost_6 : decode cX9_isLost 6 = .ok (.imul, 1) := by decide +kernel
theorem dX9_isLost_7 : decode cX9_isLost 7 = .ok (.iconst 3, 1) := by decide +kernel
theorem dX9_isLost_8 : decode cX9_isLost 8 = .ok (.iadd, 1) := by decide +kernel
theorem dX9_isLost_9 : decode cX9_isLost 9 = .ok (.iaload, 1) := by decide +kernel
theorem dX9_isLost_10 : decode cX9_isLost 10 = .ok (.iconst 1, 1) := by decide +kernel
theorem dX9_isLost_11 : decode cX9_isLost 11 = .ok (.if_icmp .ne 7, 3) := by decide +kernel
theorem dX9_isLost_14 : decode cX9_isLost 14 = .ok (.iconst 1, 1) := by decide +kernel
theorem dX9_isLost_15 : decode cX9_isLost 15 = .ok (.goto 4, 3) := by decide +kernel
theorem dX9_isLost_18 : decode cX9_isLost 18 = .ok (.iconst 0, 1) := by decide +kernel
theorem dX9_isLost_19 : decode cX9_isLost 19 = .ok (.ireturn, 1) := by decide +kernel
theorem dX9_many_0 : decode cX9_many 0 = .ok (.iconst 0, 1) := by decide +kernel
theorem dX9_many_1 : decode cX9_many 1 = .ok (.istore_n 1, 1) := by decide +kernel
theorem dX9_many_2 : decode cX9_many 2 = .ok (.iconst 0, 1) := by decide +kernel
theorem dX9_many_3 : decode cX9_many 3 = .ok (.istore_n 2, 1) := by decide +kernel
theorem dX9_many_4 : decode cX9_many 4 = .ok (.iload_n 2, 1) := by decide +kernel
theorem dX9_many_5 : decode cX9_many 5 = .ok (.bipush 8, 2) := by decide +kernel
theorem dX9_many_7 : decode cX9_many 7 = .ok (.if_icmp .ge 17, 3) := by decide +kernel
theorem dX9_many_10 : decode cX9_many 10 = .ok (.iload_n 1, 1) := by decide +kernel
theorem dX9_many_11 : decode cX9_many 11 = .ok (.iload_n 0, 1) := by decide +kernel
theorem dX9_many_12 : decode cX9_many 12 = .ok (.iload_n 2, 1) := by decide +kernel
theorem dX9_many_13 : decode cX9_many 13 = .ok (.ishr, 1) := by decide +kernel
theorem dX9_many_14 : decode cX9_many 14 = .ok (.iconst 1, 1) := by decide +kernel
theorem dX9_many_15 : decode cX9_many 15 = .ok (.iand, 1) := by decide +kernel
theorem dX9_many_16 : decode cX9_many 16 = .ok (.iadd, 1) := by decide +kernel
theorem dX9_many_17 : decode cX9_many 17 = .ok (.istore_n 1, 1) := by decide +kernel
theorem dX9_many_18 : decode cX9_many 18 = .ok (.iinc 2 1, 3) := by decide +kernel
theorem dX9_many_21 : decode cX9_many 21 = .ok (.goto (-17), 3) := by decide +kernel
theorem dX9_many_24 : decode cX9_many 24 = .ok (.iload_n 1, 1) := by decide +kernel
theorem dX9_many_25 : decode cX9_many 25 = .ok (.ireturn, 1) := by decide +kernel
theorem dX9_orNever_0 : decode cX9_orNever 0 = .ok (.iload_n 0, 1) := by decide +kernel
theorem dX9_orNever_1 : decode cX9_orNever 1 = .ok (.iconst (-1), 1) := by decide +kernel
theorem dX9_orNever_2 : decode cX9_orNever 2 = .ok (.if_icmp .ne 8, 3) := by decide +kernel
theorem dX9_orNever_5 : decode cX9_orNever 5 = .ok (.bipush (-5), 2) := by decide +kernel
theorem dX9_orNever_7 : decode cX9_orNever 7 = .ok (.goto 4, 3) := by decide +kernel
theorem dX9_orNever_10 : decode cX9_orNever 10 = .ok (.iload_n 0, 1) := by decide +kernel
theorem dX9_orNever_11 : decode cX9_orNever 11 = .ok (.ireturn, 1) := by decide +kernel
theorem dX9_bridge_0 : decode cX9_bridge 0 = .ok (.iload_n 1, 1) := by decide +kernel
theorem dX9_bridge_1 : decode cX9_bridge 1 = .ok (.invokestatic 106, 3) := by decide +kernel
theorem dX9_bridge_4 : decode cX9_bridge 4 = .ok (.ifCond .eq 10, 3) := by decide +kernel
theorem dX9_bridge_7 : decode cX9_bridge 7 = .ok (.iload_n 2, 1) := by decide +kernel
theorem dX9_bridge_8 : decode cX9_bridge 8 = .ok (.invokestatic 106, 3) := by decide +kernel
theorem dX9_bridge_11 : decode cX9_bridge 11 = .ok (.ifCond .ne 5, 3) := by decide +kernel
theorem dX9_bridge_14 : decode cX9_bridge 14 = .ok (.iconst (-1), 1) := by decide +kernel
theorem dX9_bridge_15 : decode cX9_bridge 15 = .ok (.ireturn, 1) := by decide +kernel
theorem dX9_bridge_16 : decode cX9_bridge 16 = .ok (.iload_n 1, 1) := by decide +kernel
theorem dX9_bridge_17 : decode cX9_bridge 17 = .ok (.iload_n 2, 1) := by decide +kernel
theorem dX9_bridge_18 : decode cX9_bridge 18 = .ok (.if_icmp .ne 6, 3) := by decide +kernel
theorem dX9_bridge_21 : decode cX9_bridge 21 = .ok (.bipush (-2), 2) := by decide +kernel
theorem dX9_bridge_23 : decode cX9_bridge 23 = .ok (.ireturn, 1) := by decide +kernel
theorem dX9_bridge_24 : decode cX9_bridge 24 = .ok (.aload_n 0, 1) := by decide +kernel
theorem dX9_bridge_25 : decode cX9_bridge 25 = .ok (.getfield 9, 3) := by decide +kernel
theorem dX9_bridge_28 : decode cX9_bridge 28 = .ok (.bipush 93, 2) := by decide +kernel
theorem dX9_bridge_30 : decode cX9_bridge 30 = .ok (.iaload, 1) := by decide +kernel
theorem dX9_bridge_31 : decode cX9_bridge 31 = .ok (.istore_n 3, 1) := by decide +kernel
theorem dX9_bridge_32 : decode cX9_bridge 32 = .ok (.iload_n 3, 1) := by decide +kernel
theorem dX9_bridge_33 : decode cX9_bridge 33 = .ok (.bipush 8, 2) := by decide +kernel
theorem dX9_bridge_35 : decode cX9_bridge 35 = .ok (.if_icmp .ne 6, 3) := by decide +kernel
theorem dX9_bridge_38 : decode cX9_bridge 38 = .ok (.bipush (-4), 2) := by decide +kernel
theorem dX9_bridge_40 : decode cX9_bridge 40 = .ok (.ireturn, 1) := by decide +kernel
theorem dX9_bridge_41 : decode cX9_bridge 41 = .ok (.aload_n 0, 1) := by decide +kernel
theorem dX9_bridge_42 : decode cX9_bridge 42 = .ok (.getfield 9, 3) := by decide +kernel
theorem dX9_bridge_45 : decode cX9_bridge 45 = .ok (.iconst 4, 1) := by decide +kernel
theorem dX9_bridge_46 : decode cX9_bridge 46 = .ok (.iload_n 3, 1) := by decide +kernel
theorem dX9_bridge_47 : decode cX9_bridge 47 = .ok (.imul, 1) := by decide +kernel
theorem dX9_bridge_48 : decode cX9_bridge 48 = .ok (.iload_n 1, 1) := by decide +kernel
theorem dX9_bridge_49 : decode cX9_bridge 49 = .ok (.iastore, 1) := by decide +kernel
theorem dX9_bridge_50 : decode cX9_bridge 50 = .ok (.aload_n 0, 1) := by decide +kernel
theorem dX9_bridge_51 : decode cX9_bridge 51 = .ok (.getfield 9, 3) := by decide +kernel
theorem dX9_bridge_54 : decode cX9_bridge 54 = .ok (.iconst 4, 1) := by decide +kernel
theorem dX9_bridge_55 : decode cX9_bridge 55 = .ok (.iload_n 3, 1) := by decide +kernel
theorem dX9_bridge_56 : decode cX9_bridge 56 = .ok (.imul, 1) := by decide +kernel
theorem dX9_bridge_57 : decode cX9_bridge 57 = .ok (.iconst 1, 1) := by decide +kernel
theorem dX9_bridge_58 : decode cX9_bridge 58 = .ok (.iadd, 1) := by decide +kernel
theorem dX9_bridge_59 : decode cX9_bridge 59 = .ok (.iload_n 2, 1) := by decide +kernel
theorem dX9_bridge_60 : decode cX9_bridge 60 = .ok (.iastore, 1) := by decide +kernel
theorem dX9_bridge_61 : decode cX9_bridge 61 = .ok (.aload_n 0, 1) := by decide +kernel
theorem dX9_bridge_62 : decode cX9_bridge 62 = .ok (.getfield 9, 3) := by decide +kernel
theorem dX9_bridge_65 : decode cX9_bridge 65 = .ok (.iconst 4, 1) := by decide +kernel
theorem dX9_bridge_66 : decode cX9_bridge 66 = .ok (.iload_n 3, 1) := by decide +kernel
theorem dX9_bridge_67 : decode cX9_bridge 67 = .ok (.imul, 1) := by decide +kernel
theorem dX9_bridge_68 : decode cX9_bridge 68 = .ok (.iconst 2, 1) := by decide +kernel
theorem dX9_bridge_69 : decode cX9_bridge 69 = .ok (.iadd, 1) := by decide +kernel
theorem dX9_bridge_70 : decode cX9_bridge 70 = .ok (.iload_n 3, 1) := by decide +kernel
theorem dX9_bridge_71 : decode cX9_bridge 71 = .ok (.iconst 2, 1) := by decide +kernel
theorem dX9_bridge_72 : decode cX9_bridge 72 = .ok (.irem, 1) := by decide +kernel
theorem dX9_bridge_73 : decode cX9_bridge 73 = .ok (.iconst 1, 1) := by decide +kernel
theorem dX9_bridge_74 : decode cX9_bridge 74 = .ok (.if_icmp .ne 9, 3) := by decide +kernel
theorem dX9_bridge_77 : decode cX9_bridge 77 = .ok (.iload_n 3, 1) := by decide +kernel
theorem dX9_bridge_78 : decode cX9_bridge 78 = .ok (.iconst 1, 1) := by decide +kernel
theorem dX9_bridge_79 : decode cX9_bridge 79 = .ok (.isub, 1) := by decide +kernel
theorem dX9_bridge_80 : decode cX9_bridge 80 = .ok (.goto 4, 3) := by decide +kernel
theorem dX9_bridge_83 : decode cX9_bridge 83 = .ok (.iconst (-1), 1) := by decide +kernel
theorem dX9_bridge_84 : decode cX9_bridge 84 = .ok (.iastore, 1) := by decide +kernel
theorem dX9_bridge_85 : decode cX9_bridge 85 = .ok (.aload_n 0, 1) := by decide +kernel
theorem dX9_bridge_86 : decode cX9_bridge 86 = .ok (.getfield 9, 3) := by decide +kernel
theorem dX9_bridge_89 : decode cX9_bridge 89 = .ok (.iconst 4, 1) := by decide +kernel
theorem dX9_bridge_90 : decode cX9_bridge 90 = .ok (.iload_n 3, 1) := by decide +kernel
theorem dX9_bridge_91 : decode cX9_bridge 91 = .ok (.imul, 1) := by decide +kernel
theorem dX9_bridge_92 : decode cX9_bridge 92 = .ok (.iconst 3, 1) := by decide +kernel
theorem dX9_bridge_93 : decode cX9_bridge 93 = .ok (.iadd, 1) := by decide +kernel
theorem dX9_bridge_94 : decode cX9_bridge 94 = .ok (.iconst 0, 1) := by decide +kernel
theorem dX9_bridge_95 : decode cX9_bridge 95 = .ok (.iastore, 1) := by decide +kernel
theorem dX9_bridge_96 : decode cX9_bridge 96 = .ok (.iload_n 3, 1) := by decide +kernel
theorem dX9_bridge_97 : decode cX9_bridge 97 = .ok (.iconst 2, 1) := by decide +kernel
theorem dX9_bridge_98 : decode cX9_bridge 98 = .ok (.irem, 1) := by decide +kernel
theorem dX9_bridge_99 : decode cX9_bridge 99 = .ok (.iconst 1, 1) := by decide +kernel
theorem dX9_bridge_100 : decode cX9_bridge 100 = .ok (.if_icmp .ne 14, 3) := by decide +kernel
theorem dX9_bridge_103 : decode cX9_bridge 103 = .ok (.aload_n 0, 1) := by decide +kernel
theorem dX9_bridge_104 : decode cX9_bridge 104 = .ok (.getfield 9, 3) := by decide +kernel
theorem dX9_bridge_107 : decode cX9_bridge 107 = .ok (.iconst 4, 1) := by decide +kernel
theorem dX9_bridge_108 : decode cX9_bridge 108 = .ok (.iload_n 3, 1) := by decide +kernel
theorem dX9_bridge_109 : decode cX9_bridge 109 = .ok (.imul, 1) := by decide +kernel
theorem dX9_bridge_110 : decode cX9_bridge 110 = .ok (.iconst 2, 1) := by decide +kernel
theorem dX9_bridge_111 : decode cX9_bridge 111 = .ok (.isub, 1) := by decide +kernel
theorem dX9_bridge_112 : decode cX9_bridge 112 = .ok (.iload_n 3, 1) := by decide +kernel
theorem dX9_bridge_113 : decode cX9_bridge 113 = .ok (.iastore, 1) := by decide +kernel
theorem dX9_bridge_114 : decode cX9_bridge 114 = .ok (.aload_n 0, 1) := by decide +kernel
theorem dX9_bridge_115 : decode cX9_bridge 115 = .ok (.getfield 9, 3) := by decide +kernel
theorem dX9_bridge_118 : decode cX9_bridge 118 = .ok (.bipush 93, 2) := by decide +kernel
theorem dX9_bridge_120 : decode cX9_bridge 120 = .ok (.dup2, 1) := by decide +kernel
theorem dX9_bridge_121 : decode cX9_bridge 121 = .ok (.iaload, 1) := by decide +kernel
theorem dX9_bridge_122 : decode cX9_bridge 122 = .ok (.iconst 1, 1) := by decide +kernel
theorem dX9_bridge_123 : decode cX9_bridge 123 = .ok (.iadd, 1) := by decide +kernel
theorem dX9_bridge_124 : decode cX9_bridge 124 = .ok (.iastore, 1) := by decide +kernel
theorem dX9_bridge_125 : decode cX9_bridge 125 = .ok (.iload_n 3, 1) := by decide +kernel
theorem dX9_bridge_126 : decode cX9_bridge 126 = .ok (.ireturn, 1) := by decide +kernel
theorem dX9_one__0 : decode cX9_one_ 0 = .ok (.iload_n 1, 1) := by decide +kernel
theorem dX9_one__1 : decode cX9_one_ 1 = .ok (.iconst 0, 1) := by decide +kernel
theorem dX9_one__2 : decode cX9_one_ 2 = .ok (.bipush 6, 2) := by decide +kernel
theorem dX9_one__4 : decode cX9_one_ 4 = .ok (.invokestatic 98, 3) := by decide +kernel
theorem dX9_one__7 : decode cX9_one_ 7 = .ok (.ifCond .eq 10, 3) := by decide +kernel
theorem dX9_one__10 : decode cX9_one_ 10 = .ok (.iload_n 3, 1) := by decide +kernel
theorem dX9_one__11 : decode cX9_one_ 11 = .ok (.invokestatic 106, 3) := by decide +kernel
theorem dX9_one__14 : decode cX9_one_ 14 = .ok (.ifCond .ne 5, 3) := by decide +kernel
theorem dX9_one__17 : decode cX9_one_ 17 = .ok (.iconst (-1), 1) := by decide +kernel
theorem dX9_one__18 : decode cX9_one_ 18 = .ok (.ireturn, 1) := by decide +kernel
theorem dX9_one__19 : decode cX9_one_ 19 = .ok (.iload_n 2, 1) := by decide +kernel
theorem dX9_one__20 : decode cX9_one_ 20 = .ok (.iconst 0, 1) := by decide +kernel
theorem dX9_one__21 : decode cX9_one_ 21 = .ok (.bipush 9, 2) := by decide +kernel
theorem dX9_one__23 : decode cX9_one_ 23 = .ok (.invokestatic 98, 3) := by decide +kernel
theorem dX9_one__26 : decode cX9_one_ 26 = .ok (.ifCond .ne 6, 3) := by decide +kernel
theorem dX9_one__29 : decode cX9_one_ 29 = .ok (.bipush (-2), 2) := by decide +kernel
theorem dX9_one__31 : decode cX9_one_ 31 = .ok (.ireturn, 1) := by decide +kernel
theorem dX9_one__32 : decode cX9_one_ 32 = .ok (.aload_n 0, 1) := by decide +kernel
theorem dX9_one__33 : decode cX9_one_ 33 = .ok (.getfield 9, 3) := by decide +kernel
theorem dX9_one__36 : decode cX9_one_ 36 = .ok (.bipush 92, 2) := by decide +kernel
theorem dX9_one__38 : decode cX9_one_ 38 = .ok (.iaload, 1) := by decide +kernel
theorem dX9_one__39 : decode cX9_one_ 39 = .ok (.istore 4, 2) := by decide +kernel
theorem dX9_one__41 : decode cX9_one_ 41 = .ok (.iload 4, 2) := by decide +kernel
theorem dX9_one__43 : decode cX9_one_ 43 = .ok (.bipush 6, 2) := by decide +kernel
theorem dX9_one__45 : decode cX9_one_ 45 = .ok (.if_icmp .ne 6, 3) := by decide +kernel
theorem dX9_one__48 : decode cX9_one_ 48 = .ok (.bipush (-4), 2) := by decide +kernel
theorem dX9_one__50 : decode cX9_one_ 50 = .ok (.ireturn, 1) := by decide +kernel
theorem dX9_one__51 : decode cX9_one_ 51 = .ok (.iconst 0, 1) := by decide +kernel
theorem dX9_one__52 : decode cX9_one_ 52 = .ok (.istore 5, 2) := by decide +kernel
theorem dX9_one__54 : decode cX9_one_ 54 = .ok (.iload 5, 2) := by decide +kernel
theorem dX9_one__56 : decode cX9_one_ 56 = .ok (.bipush 10, 2) := by decide +kernel
theorem dX9_one__58 : decode cX9_one_ 58 = .ok (.if_icmp .ge 19, 3) := by decide +kernel
theorem dX9_one__61 : decode cX9_one_ 61 = .ok (.aload_n 0, 1) := by decide +kernel
theorem dX9_one__62 : decode cX9_one_ 62 = .ok (.iload 4, 2) := by decide +kernel
theorem dX9_one__64 : decode cX9_one_ 64 = .ok (.iload 5, 2) := by decide +kernel
theorem dX9_one__66 : decode cX9_one_ 66 = .ok (.iconst 0, 1) := by decide +kernel
theorem dX9_one__67 : decode cX9_one_ 67 = .ok (.invokevirtual 110, 3) := by decide +kernel
theorem dX9_one__70 : decode cX9_one_ 70 = .ok (.pop, 1) := by decide +kernel
theorem dX9_one__71 : decode cX9_one_ 71 = .ok (.iinc 5 1, 3) := by decide +kernel
theorem dX9_one__74 : decode cX9_one_ 74 = .ok (.goto (-20), 3) := by decide +kernel
theorem dX9_one__77 : decode cX9_one_ 77 = .ok (.aload_n 0, 1) := by decide +kernel
theorem dX9_one__78 : decode cX9_one_ 78 = .ok (.iload 4, 2) := by decide +kernel
theorem dX9_one__80 : decode cX9_one_ 80 = .ok (.iconst 0, 1) := by decide +kernel
theorem dX9_one__81 : decode cX9_one_ 81 = .ok (.iload_n 1, 1) := by decide +kernel
theorem dX9_one__82 : decode cX9_one_ 82 = .ok (.invokevirtual 110, 3) := by decide +kernel
theorem dX9_one__85 : decode cX9_one_ 85 = .ok (.pop, 1) := by decide +kernel
theorem dX9_one__86 : decode cX9_one_ 86 = .ok (.aload_n 0, 1) := by decide +kernel
theorem dX9_one__87 : decode cX9_one_ 87 = .ok (.iload 4, 2) := by decide +kernel
theorem dX9_one__89 : decode cX9_one_ 89 = .ok (.iconst 1, 1) := by decide +kernel
theorem dX9_one__90 : decode cX9_one_ 90 = .ok (.iload_n 2, 1) := by decide +kernel
theorem dX9_one__91 : decode cX9_one_ 91 = .ok (.invokevirtual 110, 3) := by decide +kernel
theorem dX9_one__94 : decode cX9_one_ 94 = .ok (.pop, 1) := by decide +kernel
theorem dX9_one__95 : decode cX9_one_ 95 = .ok (.aload_n 0, 1) := by decide +kernel
theorem dX9_one__96 : decode cX9_one_ 96 = .ok (.iload 4, 2) := by decide +kernel
theorem dX9_one__98 : decode cX9_one_ 98 = .ok (.iconst 2, 1) := by decide +kernel
theorem dX9_one__99 : decode cX9_one_ 99 = .ok (.iload_n 3, 1) := by decide +kernel
theorem dX9_one__100 : decode cX9_one_ 100 = .ok (.invokevirtual 110, 3) := by decide +kernel
theorem dX9_one__103 : decode cX9_one_ 103 = .ok (.pop, 1) := by decide +kernel
theorem dX9_one__104 : decode cX9_one_ 104 = .ok (.aload_n 0, 1) := by decide +kernel
theorem dX9_one__105 : decode cX9_one_ 105 = .ok (.iload 4, 2) := by decide +kernel
theorem dX9_one__107 : decode cX9_one_ 107 = .ok (.iconst 3, 1) := by decide +kernel
theorem dX9_one__108 : decode cX9_one_ 108 = .ok (.iload_n 3, 1) := by decide +kernel
theorem dX9_one__109 : decode cX9_one_ 109 = .ok (.invokevirtual 110, 3) := by decide +kernel
theorem dX9_one__112 : decode cX9_one_ 112 = .ok (.pop, 1) := by decide +kernel
theorem dX9_one__113 : decode cX9_one_ 113 = .ok (.aload_n 0, 1) := by decide +kernel
theorem dX9_one__114 : decode cX9_one_ 114 = .ok (.iload 4, 2) := by decide +kernel
theorem dX9_one__116 : decode cX9_one_ 116 = .ok (.iconst 4, 1) := by decide +kernel
theorem dX9_one__117 : decode cX9_one_ 117 = .ok (.iconst (-1), 1) := by decide +kernel
theorem dX9_one__118 : decode cX9_one_ 118 = .ok (.invokevirtual 110, 3) := by decide +kernel
theorem dX9_one__121 : decode cX9_one_ 121 = .ok (.pop, 1) := by decide +kernel
theorem dX9_one__122 : decode cX9_one_ 122 = .ok (.aload_n 0, 1) := by decide +kernel
theorem dX9_one__123 : decode cX9_one_ 123 = .ok (.getfield 9, 3) := by decide +kernel
theorem dX9_one__126 : decode cX9_one_ 126 = .ok (.bipush 92, 2) := by decide +kernel
theorem dX9_one__128 : decode cX9_one_ 128 = .ok (.dup2, 1) := by decide +kernel
theorem dX9_one__129 : decode cX9_one_ 129 = .ok (.iaload, 1) := by decide +kernel
theorem dX9_one__130 : decode cX9_one_ 130 = .ok (.iconst 1, 1) := by decide +kernel
theorem dX9_one__131 : decode cX9_one_ 131 = .ok (.iadd, 1) := by decide +kernel
theorem dX9_one__132 : decode cX9_one_ 132 = .ok (.iastore, 1) := by decide +kernel
theorem dX9_one__133 : decode cX9_one_ 133 = .ok (.iload 4, 2) := by decide +kernel
theorem dX9_one__135 : decode cX9_one_ 135 = .ok (.ireturn, 1) := by decide +kernel
theorem dX9_of_0 : decode cX9_of 0 = .ok (.aload_n 0, 1) := by decide +kernel
theorem dX9_of_1 : decode cX9_of 1 = .ok (.iload_n 1, 1) := by decide +kernel
theorem dX9_of_2 : decode cX9_of 2 = .ok (.invokevirtual 114, 3) := by decide +kernel
theorem dX9_of_5 : decode cX9_of 5 = .ok (.ifCond .ne 7, 3) := by decide +kernel
theorem dX9_of_8 : decode cX9_of 8 = .ok (.sipush (-10001), 3) := by decide +kernel
theorem dX9_of_11 : decode cX9_of 11 = .ok (.ireturn, 1) := by decide +kernel
theorem dX9_of_12 : decode cX9_of 12 = .ok (.iload_n 2, 1) := by decide +kernel
theorem dX9_of_13 : decode cX9_of 13 = .ok (.iconst 0, 1) := by decide +kernel
theorem dX9_of_14 : decode cX9_of 14 = .ok (.iconst 5, 1) := by decide +kernel
theorem dX9_of_15 : decode cX9_of 15 = .ok (.invokestatic 98, 3) := by decide +kernel
theorem dX9_of_18 : decode cX9_of 18 = .ok (.ifCond .eq 27, 3) := by decide +kernel
theorem dX9_of_21 : decode cX9_of 21 = .ok (.iload_n 2, 1) := by decide +kernel
theorem dX9_of_22 : decode cX9_of 22 = .ok (.iconst 4, 1) := by decide +kernel
theorem dX9_of_23 : decode cX9_of 23 = .ok (.if_icmp .ne 15, 3) := by decide +kernel
theorem dX9_of_26 : decode cX9_of 26 = .ok (.aload_n 0, 1) := by decide +kernel
theorem dX9_of_27 : decode cX9_of 27 = .ok (.iload_n 1, 1) := by decide +kernel
theorem dX9_of_28 : decode cX9_of 28 = .ok (.iconst 4, 1) := by decide +kernel
theorem dX9_of_29 : decode cX9_of 29 = .ok (.invokevirtual 102, 3) := by decide +kernel
theorem dX9_of_32 : decode cX9_of 32 = .ok (.invokestatic 117, 3) := by decide +kernel
theorem dX9_of_35 : decode cX9_of 35 = .ok (.goto 9, 3) := by decide +kernel
theorem dX9_of_38 : decode cX9_of 38 = .ok (.aload_n 0, 1) := by decide +kernel
theorem dX9_of_39 : decode cX9_of 39 = .ok (.iload_n 1, 1) := by decide +kernel
theorem dX9_of_40 : decode cX9_of 40 = .ok (.iload_n 2, 1) := by decide +kernel
theorem dX9_of_41 : decode cX9_of 41 = .ok (.invokevirtual 102, 3) := by decide +kernel
theorem dX9_of_44 : decode cX9_of 44 = .ok (.ireturn, 1) := by decide +kernel
theorem dX9_of_45 : decode cX9_of 45 = .ok (.iload_n 2, 1) := by decide +kernel
theorem dX9_of_46 : decode cX9_of 46 = .ok (.bipush 6, 2) := by decide +kernel
theorem dX9_of_48 : decode cX9_of 48 = .ok (.if_icmp .ne 9, 3) := by decide +kernel
theorem dX9_of_51 : decode cX9_of 51 = .ok (.aload_n 0, 1) := by decide +kernel
theorem dX9_of_52 : decode cX9_of 52 = .ok (.iload_n 1, 1) := by decide +kernel
theorem dX9_of_53 : decode cX9_of 53 = .ok (.invokevirtual 121, 3) := by decide +kernel
theorem dX9_of_56 : decode cX9_of 56 = .ok (.ireturn, 1) := by decide +kernel
theorem dX9_of_57 : decode cX9_of 57 = .ok (.iload_n 2, 1) := by decide +kernel
theorem dX9_of_58 : decode cX9_of 58 = .ok (.bipush 7, 2) := by decide +kernel
theorem dX9_of_60 : decode cX9_of 60 = .ok (.if_icmp .ne 11, 3) := by decide +kernel
theorem dX9_of_63 : decode cX9_of 63 = .ok (.aload_n 0, 1) := by decide +kernel
theorem dX9_of_64 : decode cX9_of 64 = .ok (.iload_n 1, 1) := by decide +kernel
theorem dX9_of_65 : decode cX9_of 65 = .ok (.invokevirtual 124, 3) := by decide +kernel
theorem dX9_of_68 : decode cX9_of 68 = .ok (.goto 43, 3) := by decide +kernel
theorem dX9_of_71 : decode cX9_of 71 = .ok (.iload_n 2, 1) := by decide +kernel
theorem dX9_of_72 : decode cX9_of 72 = .ok (.bipush 8, 2) := by decide +kernel
theorem dX9_of_74 : decode cX9_of 74 = .ok (.if_icmp .ne 11, 3) := by decide +kernel
theorem dX9_of_77 : decode cX9_of 77 = .ok (.aload_n 0, 1) := by decide +kernel
theorem dX9_of_78 : decode cX9_of 78 = .ok (.iload_n 1, 1) := by decide +kernel
theorem dX9_of_79 : decode cX9_of 79 = .ok (.invokevirtual 127, 3) := by decide +kernel
theorem dX9_of_82 : decode cX9_of 82 = .ok (.goto 29, 3) := by decide +kernel
theorem dX9_of_85 : decode cX9_of 85 = .ok (.aload_n 0, 1) := by decide +kernel
theorem dX9_of_86 : decode cX9_of 86 = .ok (.iload_n 2, 1) := by decide +kernel
theorem dX9_of_87 : decode cX9_of 87 = .ok (.bipush 10, 2) := by decide +kernel
theorem dX9_of_89 : decode cX9_of 89 = .ok (.isub, 1) := by decide +kernel
theorem dX9_of_90 : decode cX9_of 90 = .ok (.invokevirtual 130, 3) := by decide +kernel
theorem dX9_of_93 : decode cX9_of 93 = .ok (.ifCond .eq 15, 3) := by decide +kernel
theorem dX9_of_96 : decode cX9_of 96 = .ok (.aload_n 0, 1) := by decide +kernel
theorem dX9_of_97 : decode cX9_of 97 = .ok (.iload_n 1, 1) := by decide +kernel
theorem dX9_of_98 : decode cX9_of 98 = .ok (.iload_n 2, 1) := by decide +kernel
theorem dX9_of_99 : decode cX9_of 99 = .ok (.bipush 10, 2) := by decide +kernel
theorem dX9_of_101 : decode cX9_of 101 = .ok (.isub, 1) := by decide +kernel
theorem dX9_of_102 : decode cX9_of 102 = .ok (.invokevirtual 133, 3) := by decide +kernel
theorem dX9_of_105 : decode cX9_of 105 = .ok (.goto 6, 3) := by decide +kernel
theorem dX9_of_108 : decode cX9_of 108 = .ok (.sipush (-10001), 3) := by decide +kernel
theorem dX9_of_111 : decode cX9_of 111 = .ok (.ireturn, 1) := by decide +kernel
theorem dX9_span_0 : decode cX9_span 0 = .ok (.aload_n 0, 1) := by decide +kernel
theorem dX9_span_1 : decode cX9_span 1 = .ok (.iload_n 1, 1) := by decide +kernel
theorem dX9_span_2 : decode cX9_span 2 = .ok (.invokevirtual 130, 3) := by decide +kernel
theorem dX9_span_5 : decode cX9_span 5 = .ok (.ifCond .eq 12, 3) := by decide +kernel
theorem dX9_span_8 : decode cX9_span 8 = .ok (.iload_n 2, 1) := by decide +kernel
theorem dX9_span_9 : decode cX9_span 9 = .ok (.iconst 0, 1) := by decide +kernel
theorem dX9_span_10 : decode cX9_span 10 = .ok (.iconst 3, 1) := by decide +kernel
theorem dX9_span_11 : decode cX9_span 11 = .ok (.invokestatic 98, 3) := by decide +kernel
theorem dX9_span_14 : decode cX9_span 14 = .ok (.ifCond .ne 5, 3) := by decide +kernel
theorem dX9_span_17 : decode cX9_span 17 = .ok (.iconst (-1), 1) := by decide +kernel
theorem dX9_span_18 : decode cX9_span 18 = .ok (.ireturn, 1) := by decide +kernel
theorem dX9_span_19 : decode cX9_span 19 = .ok (.iload_n 2, 1) := by decide +kernel
theorem dX9_span_20 : decode cX9_span 20 = .ok (.iconst 2, 1) := by decide +kernel
theorem dX9_span_21 : decode cX9_span 21 = .ok (.if_icmp .ne 14, 3) := by decide +kernel
theorem dX9_span_24 : decode cX9_span 24 = .ok (.aload_n 0, 1) := by decide +kernel
theorem dX9_span_25 : decode cX9_span 25 = .ok (.iload_n 1, 1) := by decide +kernel
theorem dX9_span_26 : decode cX9_span 26 = .ok (.invokevirtual 136, 3) := by decide +kernel
theorem dX9_span_29 : decode cX9_span 29 = .ok (.invokestatic 117, 3) := by decide +kernel
theorem dX9_span_32 : decode cX9_span 32 = .ok (.goto 13, 3) := by decide +kernel
theorem dX9_span_35 : decode cX9_span 35 = .ok (.aload_n 0, 1) := by decide +kernel
theorem dX9_span_36 : decode cX9_span 36 = .ok (.getfield 9, 3) := by decide +kernel
theorem dX9_span_39 : decode cX9_span 39 = .ok (.iconst 4, 1) := by decide +kernel
theorem dX9_span_40 : decode cX9_span 40 = .ok (.iload_n 1, 1) := by decide +kernel
theorem dX9_span_41 : decode cX9_span 41 = .ok (.imul, 1) := by decide +kernel
theorem dX9_span_42 : decode cX9_span 42 = .ok (.iload_n 2, 1) := by decide +kernel
theorem dX9_span_43 : decode cX9_span 43 = .ok (.iadd, 1) := by decide +kernel
theorem dX9_span_44 : decode cX9_span 44 = .ok (.iaload, 1) := by decide +kernel
theorem dX9_span_45 : decode cX9_span 45 = .ok (.ireturn, 1) := by decide +kernel
theorem dX9_errand_0 : decode cX9_errand 0 = .ok (.aload_n 0, 1) := by decide +kernel
theorem dX9_errand_1 : decode cX9_errand 1 = .ok (.iload_n 1, 1) := by decide +kernel
theorem dX9_errand_2 : decode cX9_errand 2 = .ok (.invokevirtual 114, 3) := by decide +kernel
theorem dX9_errand_5 : decode cX9_errand 5 = .ok (.ifCond .eq 25, 3) := by decide +kernel
theorem dX9_errand_8 : decode cX9_errand 8 = .ok (.iload_n 2, 1) := by decide +kernel
theorem dX9_errand_9 : decode cX9_errand 9 = .ok (.iconst (-1), 1) := by decide +kernel
theorem dX9_errand_10 : decode cX9_errand 10 = .ok (.iconst 5, 1) := by decide +kernel
theorem dX9_errand_11 : decode cX9_errand 11 = .ok (.invokestatic 98, 3) := by decide +kernel
theorem dX9_errand_14 : decode cX9_errand 14 = .ok (.ifCond .eq 16, 3) := by decide +kernel
theorem dX9_errand_17 : decode cX9_errand 17 = .ok (.aload_n 0, 1) := by decide +kernel
theorem dX9_errand_18 : decode cX9_errand 18 = .ok (.iload_n 1, 1) := by decide +kernel
theorem dX9_errand_19 : decode cX9_errand 19 = .ok (.iconst 4, 1) := by decide +kernel
theorem dX9_errand_20 : decode cX9_errand 20 = .ok (.iload_n 2, 1) := by decide +kernel
theorem dX9_errand_21 : decode cX9_errand 21 = .ok (.invokevirtual 110, 3) := by decide +kernel
theorem dX9_errand_24 : decode cX9_errand 24 = .ok (.invokestatic 117, 3) := by decide +kernel
theorem dX9_errand_27 : decode cX9_errand 27 = .ok (.goto 4, 3) := by decide +kernel
theorem dX9_errand_30 : decode cX9_errand 30 = .ok (.iconst (-1), 1) := by decide +kernel
theorem dX9_errand_31 : decode cX9_errand 31 = .ok (.ireturn, 1) := by decide +kernel
theorem dX9_cross_0 : decode cX9_cross 0 = .ok (.aload_n 0, 1) := by decide +kernel
theorem dX9_cross_1 : decode cX9_cross 1 = .ok (.iload_n 1, 1) := by decide +kernel
theorem dX9_cross_2 : decode cX9_cross 2 = .ok (.invokevirtual 114, 3) := by decide +kernel
theorem dX9_cross_5 : decode cX9_cross 5 = .ok (.ifCond .eq 11, 3) := by decide +kernel
theorem dX9_cross_8 : decode cX9_cross 8 = .ok (.aload_n 0, 1) := by decide +kernel
theorem dX9_cross_9 : decode cX9_cross 9 = .ok (.iload_n 2, 1) := by decide +kernel
theorem dX9_cross_10 : decode cX9_cross 10 = .ok (.invokevirtual 130, 3) := by decide +kernel
theorem dX9_cross_13 : decode cX9_cross 13 = .ok (.ifCond .ne 5, 3) := by decide +kernel
theorem dX9_cross_16 : decode cX9_cross 16 = .ok (.iconst (-1), 1) := by decide +kernel
theorem dX9_cross_17 : decode cX9_cross 17 = .ok (.ireturn, 1) := by decide +kernel
theorem dX9_cross_18 : decode cX9_cross 18 = .ok (.aload_n 0, 1) := by decide +kernel
theorem dX9_cross_19 : decode cX9_cross 19 = .ok (.iload_n 1, 1) := by decide +kernel
theorem dX9_cross_20 : decode cX9_cross 20 = .ok (.invokevirtual 127, 3) := by decide +kernel
theorem dX9_cross_23 : decode cX9_cross 23 = .ok (.iload_n 2, 1) := by decide +kernel
theorem dX9_cross_24 : decode cX9_cross 24 = .ok (.ishr, 1) := by decide +kernel
theorem dX9_cross_25 : decode cX9_cross 25 = .ok (.iconst 1, 1) := by decide +kernel
theorem dX9_cross_26 : decode cX9_cross 26 = .ok (.iand, 1) := by decide +kernel
theorem dX9_cross_27 : decode cX9_cross 27 = .ok (.ifCond .ne 6, 3) := by decide +kernel
theorem dX9_cross_30 : decode cX9_cross 30 = .ok (.bipush (-3), 2) := by decide +kernel
theorem dX9_cross_32 : decode cX9_cross 32 = .ok (.ireturn, 1) := by decide +kernel
theorem dX9_cross_33 : decode cX9_cross 33 = .ok (.aload_n 0, 1) := by decide +kernel
theorem dX9_cross_34 : decode cX9_cross 34 = .ok (.iload_n 1, 1) := by decide +kernel
theorem dX9_cross_35 : decode cX9_cross 35 = .ok (.iload_n 2, 1) := by decide +kernel
theorem dX9_cross_36 : decode cX9_cross 36 = .ok (.invokevirtual 139, 3) := by decide +kernel
theorem dX9_cross_39 : decode cX9_cross 39 = .ok (.aload_n 0, 1) := by decide +kernel
theorem dX9_cross_40 : decode cX9_cross 40 = .ok (.iload_n 1, 1) := by decide +kernel
theorem dX9_cross_41 : decode cX9_cross 41 = .ok (.iconst 2, 1) := by decide +kernel
theorem dX9_cross_42 : decode cX9_cross 42 = .ok (.invokevirtual 102, 3) := by decide +kernel
theorem dX9_cross_45 : decode cX9_cross 45 = .ok (.ireturn, 1) := by decide +kernel
theorem dX9_lose_0 : decode cX9_lose 0 = .ok (.aload_n 0, 1) := by decide +kernel
theorem dX9_lose_1 : decode cX9_lose 1 = .ok (.iload_n 1, 1) := by decide +kernel
theorem dX9_lose_2 : decode cX9_lose 2 = .ok (.invokevirtual 130, 3) := by decide +kernel
theorem dX9_lose_5 : decode cX9_lose 5 = .ok (.ifCond .ne 5, 3) := by decide +kernel
theorem dX9_lose_8 : decode cX9_lose 8 = .ok (.iconst (-1), 1) := by decide +kernel
theorem dX9_lose_9 : decode cX9_lose 9 = .ok (.ireturn, 1) := by decide +kernel
theorem dX9_lose_10 : decode cX9_lose 10 = .ok (.aload_n 0, 1) := by decide +kernel
theorem dX9_lose_11 : decode cX9_lose 11 = .ok (.getfield 9, 3) := by decide +kernel
theorem dX9_lose_14 : decode cX9_lose 14 = .ok (.iconst 4, 1) := by decide +kernel
theorem dX9_lose_15 : decode cX9_lose 15 = .ok (.iload_n 1, 1) := by decide +kernel
theorem dX9_lose_16 : decode cX9_lose 16 = .ok (.imul, 1) := by decide +kernel
theorem dX9_lose_17 : decode cX9_lose 17 = .ok (.iconst 3, 1) := by decide +kernel
theorem dX9_lose_18 : decode cX9_lose 18 = .ok (.iadd, 1) := by decide +kernel
theorem dX9_lose_19 : decode cX9_lose 19 = .ok (.iaload, 1) := by decide +kernel
theorem dX9_lose_20 : decode cX9_lose 20 = .ok (.istore_n 3, 1) := by decide +kernel
theorem dX9_lose_21 : decode cX9_lose 21 = .ok (.aload_n 0, 1) := by decide +kernel
theorem dX9_lose_22 : decode cX9_lose 22 = .ok (.getfield 9, 3) := by decide +kernel
theorem dX9_lose_25 : decode cX9_lose 25 = .ok (.iconst 4, 1) := by decide +kernel
theorem dX9_lose_26 : decode cX9_lose 26 = .ok (.iload_n 1, 1) := by decide +kernel
theorem dX9_lose_27 : decode cX9_lose 27 = .ok (.imul, 1) := by decide +kernel
theorem dX9_lose_28 : decode cX9_lose 28 = .ok (.iconst 3, 1) := by decide +kernel
theorem dX9_lose_29 : decode cX9_lose 29 = .ok (.iadd, 1) := by decide +kernel
theorem dX9_lose_30 : decode cX9_lose 30 = .ok (.iload_n 2, 1) := by decide +kernel
theorem dX9_lose_31 : decode cX9_lose 31 = .ok (.ifCond .eq 7, 3) := by decide +kernel
theorem dX9_lose_34 : decode cX9_lose 34 = .ok (.iconst 1, 1) := by decide +kernel
theorem dX9_lose_35 : decode cX9_lose 35 = .ok (.goto 4, 3) := by decide +kernel
theorem dX9_lose_38 : decode cX9_lose 38 = .ok (.iconst 0, 1) := by decide +kernel
theorem dX9_lose_39 : decode cX9_lose 39 = .ok (.iastore, 1) := by decide +kernel
theorem dX9_lose_40 : decode cX9_lose 40 = .ok (.iload_n 3, 1) := by decide +kernel
theorem dX9_lose_41 : decode cX9_lose 41 = .ok (.ireturn, 1) := by decide +kernel
theorem dX9_isSwap_0 : decode cX9_isSwap 0 = .ok (.iload_n 1, 1) := by decide +kernel
theorem dX9_isSwap_1 : decode cX9_isSwap 1 = .ok (.iload_n 2, 1) := by decide +kernel
theorem dX9_isSwap_2 : decode cX9_isSwap 2 = .ok (.if_icmp .eq 34, 3) := by decide +kernel
theorem dX9_isSwap_5 : decode cX9_isSwap 5 = .ok (.aload_n 0, 1) := by decide +kernel
theorem dX9_isSwap_6 : decode cX9_isSwap 6 = .ok (.iload_n 1, 1) := by decide +kernel
theorem dX9_isSwap_7 : decode cX9_isSwap 7 = .ok (.invokevirtual 136, 3) := by decide +kernel
theorem dX9_isSwap_10 : decode cX9_isSwap 10 = .ok (.iconst (-1), 1) := by decide +kernel
theorem dX9_isSwap_11 : decode cX9_isSwap 11 = .ok (.if_icmp .eq 25, 3) := by decide +kernel
theorem dX9_isSwap_14 : decode cX9_isSwap 14 = .ok (.aload_n 0, 1) := by decide +kernel
theorem dX9_isSwap_15 : decode cX9_isSwap 15 = .ok (.iload_n 2, 1) := by decide +kernel
theorem dX9_isSwap_16 : decode cX9_isSwap 16 = .ok (.invokevirtual 136, 3) := by decide +kernel
theorem dX9_isSwap_19 : decode cX9_isSwap 19 = .ok (.iconst (-1), 1) := by decide +kernel
theorem dX9_isSwap_20 : decode cX9_isSwap 20 = .ok (.if_icmp .eq 16, 3) := by decide +kernel
theorem dX9_isSwap_23 : decode cX9_isSwap 23 = .ok (.aload_n 0, 1) := by decide +kernel
theorem dX9_isSwap_24 : decode cX9_isSwap 24 = .ok (.iload_n 1, 1) := by decide +kernel
theorem dX9_isSwap_25 : decode cX9_isSwap 25 = .ok (.invokevirtual 136, 3) := by decide +kernel
theorem dX9_isSwap_28 : decode cX9_isSwap 28 = .ok (.iload_n 2, 1) := by decide +kernel
theorem dX9_isSwap_29 : decode cX9_isSwap 29 = .ok (.if_icmp .eq 7, 3) := by decide +kernel
theorem dX9_isSwap_32 : decode cX9_isSwap 32 = .ok (.iconst 1, 1) := by decide +kernel
theorem dX9_isSwap_33 : decode cX9_isSwap 33 = .ok (.goto 4, 3) := by decide +kernel
theorem dX9_isSwap_36 : decode cX9_isSwap 36 = .ok (.iconst 0, 1) := by decide +kernel
theorem dX9_isSwap_37 : decode cX9_isSwap 37 = .ok (.ireturn, 1) := by decide +kernel
theorem dX9_goSwap_0 : decode cX9_goSwap 0 = .ok (.aload_n 0, 1) := by decide +kernel
theorem dX9_goSwap_1 : decode cX9_goSwap 1 = .ok (.iload_n 1, 1) := by decide +kernel
theorem dX9_goSwap_2 : decode cX9_goSwap 2 = .ok (.invokevirtual 136, 3) := by decide +kernel
theorem dX9_goSwap_5 : decode cX9_goSwap 5 = .ok (.istore_n 3, 1) := by decide +kernel
theorem dX9_goSwap_6 : decode cX9_goSwap 6 = .ok (.aload_n 0, 1) := by decide +kernel
theorem dX9_goSwap_7 : decode cX9_goSwap 7 = .ok (.iload_n 2, 1) := by decide +kernel
theorem dX9_goSwap_8 : decode cX9_goSwap 8 = .ok (.invokevirtual 136, 3) := by decide +kernel
theorem dX9_goSwap_11 : decode cX9_goSwap 11 = .ok (.istore 4, 2) := by decide +kernel
theorem dX9_goSwap_13 : decode cX9_goSwap 13 = .ok (.aload_n 0, 1) := by decide +kernel
theorem dX9_goSwap_14 : decode cX9_goSwap 14 = .ok (.getfield 9, 3) := by decide +kernel
theorem dX9_goSwap_17 : decode cX9_goSwap 17 = .ok (.iconst 4, 1) := by decide +kernel
theorem dX9_goSwap_18 : decode cX9_goSwap 18 = .ok (.iload_n 1, 1) := by decide +kernel
theorem dX9_goSwap_19 : decode cX9_goSwap 19 = .ok (.imul, 1) := by decide +kernel
theorem dX9_goSwap_20 : decode cX9_goSwap 20 = .ok (.iconst 2, 1) := by decide +kernel
theorem dX9_goSwap_21 : decode cX9_goSwap 21 = .ok (.iadd, 1) := by decide +kernel
theorem dX9_goSwap_22 : decode cX9_goSwap 22 = .ok (.iload 4, 2) := by decide +kernel
theorem dX9_goSwap_24 : decode cX9_goSwap 24 = .ok (.iastore, 1) := by decide +kernel
theorem dX9_goSwap_25 : decode cX9_goSwap 25 = .ok (.aload_n 0, 1) := by decide +kernel
theorem dX9_goSwap_26 : decode cX9_goSwap 26 = .ok (.getfield 9, 3) := by decide +kernel
theorem dX9_goSwap_29 : decode cX9_goSwap 29 = .ok (.iconst 4, 1) := by decide +kernel
theorem dX9_goSwap_30 : decode cX9_goSwap 30 = .ok (.iload 4, 2) := by decide +kernel
theorem dX9_goSwap_32 : decode cX9_goSwap 32 = .ok (.imul, 1) := by decide +kernel
theorem dX9_goSwap_33 : decode cX9_goSwap 33 = .ok (.iconst 2, 1) := by decide +kernel
theorem dX9_goSwap_34 : decode cX9_goSwap 34 = .ok (.iadd, 1) := by decide +kernel
theorem dX9_goSwap_35 : decode cX9_goSwap 35 = .ok (.iload_n 1, 1) := by decide +kernel
theorem dX9_goSwap_36 : decode cX9_goSwap 36 = .ok (.iastore, 1) := by decide +kernel
theorem dX9_goSwap_37 : decode cX9_goSwap 37 = .ok (.aload_n 0, 1) := by decide +kernel
theorem dX9_goSwap_38 : decode cX9_goSwap 38 = .ok (.getfield 9, 3) := by decide +kernel
theorem dX9_goSwap_41 : decode cX9_goSwap 41 = .ok (.iconst 4, 1) := by decide +kernel
theorem dX9_goSwap_42 : decode cX9_goSwap 42 = .ok (.iload_n 2, 1) := by decide +kernel
theorem dX9_goSwap_43 : decode cX9_goSwap 43 = .ok (.imul, 1) := by decide +kernel
theorem dX9_goSwap_44 : decode cX9_goSwap 44 = .ok (.iconst 2, 1) := by decide +kernel
theorem dX9_goSwap_45 : decode cX9_goSwap 45 = .ok (.iadd, 1) := by decide +kernel
theorem dX9_goSwap_46 : decode cX9_goSwap 46 = .ok (.iload_n 3, 1) := by decide +kernel
theorem dX9_goSwap_47 : decode cX9_goSwap 47 = .ok (.iastore, 1) := by decide +kernel
theorem dX9_goSwap_48 : decode cX9_goSwap 48 = .ok (.aload_n 0, 1) := by decide +kernel
theorem dX9_goSwap_49 : decode cX9_goSwap 49 = .ok (.getfield 9, 3) := by decide +kernel
theorem dX9_goSwap_52 : decode cX9_goSwap 52 = .ok (.iconst 4, 1) := by decide +kernel
theorem dX9_goSwap_53 : decode cX9_goSwap 53 = .ok (.iload_n 3, 1) := by decide +kernel
theorem dX9_goSwap_54 : decode cX9_goSwap 54 = .ok (.imul, 1) := by decide +kernel
theorem dX9_goSwap_55 : decode cX9_goSwap 55 = .ok (.iconst 2, 1) := by decide +kernel
theorem dX9_goSwap_56 : decode cX9_goSwap 56 = .ok (.iadd, 1) := by decide +kernel
theorem dX9_goSwap_57 : decode cX9_goSwap 57 = .ok (.iload_n 2, 1) := by decide +kernel
theorem dX9_goSwap_58 : decode cX9_goSwap 58 = .ok (.iastore, 1) := by decide +kernel
theorem dX9_goSwap_59 : decode cX9_goSwap 59 = .ok (.return_, 1) := by decide +kernel
theorem dX9_swap_0 : decode cX9_swap 0 = .ok (.aload_n 0, 1) := by decide +kernel
theorem dX9_swap_1 : decode cX9_swap 1 = .ok (.iload_n 1, 1) := by decide +kernel
theorem dX9_swap_2 : decode cX9_swap 2 = .ok (.invokevirtual 130, 3) := by decide +kernel
theorem dX9_swap_5 : decode cX9_swap 5 = .ok (.ifCond .eq 11, 3) := by decide +kernel
theorem dX9_swap_8 : decode cX9_swap 8 = .ok (.aload_n 0, 1) := by decide +kernel
theorem dX9_swap_9 : decode cX9_swap 9 = .ok (.iload_n 2, 1) := by decide +kernel
theorem dX9_swap_10 : decode cX9_swap 10 = .ok (.invokevirtual 130, 3) := by decide +kernel
theorem dX9_swap_13 : decode cX9_swap 13 = .ok (.ifCond .ne 5, 3) := by decide +kernel
theorem dX9_swap_16 : decode cX9_swap 16 = .ok (.iconst (-1), 1) := by decide +kernel
theorem dX9_swap_17 : decode cX9_swap 17 = .ok (.ireturn, 1) := by decide +kernel
theorem dX9_swap_18 : decode cX9_swap 18 = .ok (.aload_n 0, 1) := by decide +kernel
theorem dX9_swap_19 : decode cX9_swap 19 = .ok (.iload_n 1, 1) := by decide +kernel
theorem dX9_swap_20 : decode cX9_swap 20 = .ok (.iload_n 2, 1) := by decide +kernel
theorem dX9_swap_21 : decode cX9_swap 21 = .ok (.invokevirtual 143, 3) := by decide +kernel
theorem dX9_swap_24 : decode cX9_swap 24 = .ok (.ifCond .ne 6, 3) := by decide +kernel
theorem dX9_swap_27 : decode cX9_swap 27 = .ok (.bipush (-3), 2) := by decide +kernel
theorem dX9_swap_29 : decode cX9_swap 29 = .ok (.ireturn, 1) := by decide +kernel
theorem dX9_swap_30 : decode cX9_swap 30 = .ok (.aload_n 0, 1) := by decide +kernel
theorem dX9_swap_31 : decode cX9_swap 31 = .ok (.iload_n 1, 1) := by decide +kernel
theorem dX9_swap_32 : decode cX9_swap 32 = .ok (.iload_n 2, 1) := by decide +kernel
theorem dX9_swap_33 : decode cX9_swap 33 = .ok (.invokevirtual 147, 3) := by decide +kernel
theorem dX9_swap_36 : decode cX9_swap 36 = .ok (.aload_n 0, 1) := by decide +kernel
theorem dX9_swap_37 : decode cX9_swap 37 = .ok (.iload_n 1, 1) := by decide +kernel
theorem dX9_swap_38 : decode cX9_swap 38 = .ok (.invokevirtual 136, 3) := by decide +kernel
theorem dX9_swap_41 : decode cX9_swap 41 = .ok (.ireturn, 1) := by decide +kernel
theorem dX9_row_0 : decode cX9_row 0 = .ok (.aload_n 0, 1) := by decide +kernel
theorem dX9_row_1 : decode cX9_row 1 = .ok (.iload_n 1, 1) := by decide +kernel
theorem dX9_row_2 : decode cX9_row 2 = .ok (.invokevirtual 114, 3) := by decide +kernel
theorem dX9_row_5 : decode cX9_row 5 = .ok (.ifCond .eq 12, 3) := by decide +kernel
theorem dX9_row_8 : decode cX9_row 8 = .ok (.iload_n 2, 1) := by decide +kernel
theorem dX9_row_9 : decode cX9_row 9 = .ok (.iconst 0, 1) := by decide +kernel
theorem dX9_row_10 : decode cX9_row 10 = .ok (.iconst 3, 1) := by decide +kernel
theorem dX9_row_11 : decode cX9_row 11 = .ok (.invokestatic 98, 3) := by decide +kernel
theorem dX9_row_14 : decode cX9_row 14 = .ok (.ifCond .ne 5, 3) := by decide +kernel
theorem dX9_row_17 : decode cX9_row 17 = .ok (.iconst (-1), 1) := by decide +kernel
theorem dX9_row_18 : decode cX9_row 18 = .ok (.ireturn, 1) := by decide +kernel
theorem dX9_row_19 : decode cX9_row 19 = .ok (.iload_n 3, 1) := by decide +kernel
theorem dX9_row_20 : decode cX9_row 20 = .ok (.iconst 0, 1) := by decide +kernel
theorem dX9_row_21 : decode cX9_row 21 = .ok (.bipush 9, 2) := by decide +kernel
theorem dX9_row_23 : decode cX9_row 23 = .ok (.invokestatic 98, 3) := by decide +kernel
theorem dX9_row_26 : decode cX9_row 26 = .ok (.ifCond .ne 6, 3) := by decide +kernel
theorem dX9_row_29 : decode cX9_row 29 = .ok (.bipush (-2), 2) := by decide +kernel
theorem dX9_row_31 : decode cX9_row 31 = .ok (.ireturn, 1) := by decide +kernel
theorem dX9_row_32 : decode cX9_row 32 = .ok (.aload_n 0, 1) := by decide +kernel
theorem dX9_row_33 : decode cX9_row 33 = .ok (.iload_n 1, 1) := by decide +kernel
theorem dX9_row_34 : decode cX9_row 34 = .ok (.iconst 0, 1) := by decide +kernel
theorem dX9_row_35 : decode cX9_row 35 = .ok (.invokevirtual 102, 3) := by decide +kernel
theorem dX9_row_38 : decode cX9_row 38 = .ok (.bipush 6, 2) := by decide +kernel
theorem dX9_row_40 : decode cX9_row 40 = .ok (.if_icmp .ne 16, 3) := by decide +kernel
theorem dX9_row_43 : decode cX9_row 43 = .ok (.aload_n 0, 1) := by decide +kernel
theorem dX9_row_44 : decode cX9_row 44 = .ok (.iload_n 1, 1) := by decide +kernel
theorem dX9_row_45 : decode cX9_row 45 = .ok (.bipush 6, 2) := by decide +kernel
theorem dX9_row_47 : decode cX9_row 47 = .ok (.iload_n 2, 1) := by decide +kernel
theorem dX9_row_48 : decode cX9_row 48 = .ok (.iadd, 1) := by decide +kernel
theorem dX9_row_49 : decode cX9_row 49 = .ok (.iload_n 3, 1) := by decide +kernel
theorem dX9_row_50 : decode cX9_row 50 = .ok (.invokevirtual 110, 3) := by decide +kernel
theorem dX9_row_53 : decode cX9_row 53 = .ok (.goto 5, 3) := by decide +kernel
theorem dX9_row_56 : decode cX9_row 56 = .ok (.bipush (-3), 2) := by decide +kernel
theorem dX9_row_58 : decode cX9_row 58 = .ok (.ireturn, 1) := by decide +kernel
theorem dX9_feed_0 : decode cX9_feed 0 = .ok (.iload_n 1, 1) := by decide +kernel
theorem dX9_feed_1 : decode cX9_feed 1 = .ok (.iconst 0, 1) := by decide +kernel
theorem dX9_feed_2 : decode cX9_feed 2 = .ok (.bipush 127, 2) := by decide +kernel
theorem dX9_feed_4 : decode cX9_feed 4 = .ok (.invokestatic 98, 3) := by decide +kernel
theorem dX9_feed_7 : decode cX9_feed 7 = .ok (.ifCond .ne 6, 3) := by decide +kernel
theorem dX9_feed_10 : decode cX9_feed 10 = .ok (.bipush (-2), 2) := by decide +kernel
theorem dX9_feed_12 : decode cX9_feed 12 = .ok (.ireturn, 1) := by decide +kernel
theorem dX9_feed_13 : decode cX9_feed 13 = .ok (.aload_n 0, 1) := by decide +kernel
theorem dX9_feed_14 : decode cX9_feed 14 = .ok (.getfield 150, 3) := by decide +kernel
theorem dX9_feed_17 : decode cX9_feed 17 = .ok (.bipush 100, 2) := by decide +kernel
theorem dX9_feed_19 : decode cX9_feed 19 = .ok (.if_icmp .ne 6, 3) := by decide +kernel
theorem dX9_feed_22 : decode cX9_feed 22 = .ok (.bipush (-4), 2) := by decide +kernel
theorem dX9_feed_24 : decode cX9_feed 24 = .ok (.ireturn, 1) := by decide +kernel
theorem dX9_feed_25 : decode cX9_feed 25 = .ok (.aload_n 0, 1) := by decide +kernel
theorem dX9_feed_26 : decode cX9_feed 26 = .ok (.getfield 21, 3) := by decide +kernel
theorem dX9_feed_29 : decode cX9_feed 29 = .ok (.aload_n 0, 1) := by decide +kernel
theorem dX9_feed_30 : decode cX9_feed 30 = .ok (.getfield 150, 3) := by decide +kernel
theorem dX9_feed_33 : decode cX9_feed 33 = .ok (.iload_n 1, 1) := by decide +kernel
theorem dX9_feed_34 : decode cX9_feed 34 = .ok (.iastore, 1) := by decide +kernel
theorem dX9_feed_35 : decode cX9_feed 35 = .ok (.aload_n 0, 1) := by decide +kernel
theorem dX9_feed_36 : decode cX9_feed 36 = .ok (.dup, 1) := by decide +kernel
theorem dX9_feed_37 : decode cX9_feed 37 = .ok (.getfield 150, 3) := by decide +kernel
theorem dX9_feed_40 : decode cX9_feed 40 = .ok (.iconst 1, 1) := by decide +kernel
theorem dX9_feed_41 : decode cX9_feed 41 = .ok (.iadd, 1) := by decide +kernel
theorem dX9_feed_42 : decode cX9_feed 42 = .ok (.putfield 150, 3) := by decide +kernel
theorem dX9_feed_45 : decode cX9_feed 45 = .ok (.aload_n 0, 1) := by decide +kernel
theorem dX9_feed_46 : decode cX9_feed 46 = .ok (.getfield 150, 3) := by decide +kernel
theorem dX9_feed_49 : decode cX9_feed 49 = .ok (.ireturn, 1) := by decide +kernel
theorem dX9_isAt_0 : decode cX9_isAt 0 = .ok (.aload_n 0, 1) := by decide +kernel
theorem dX9_isAt_1 : decode cX9_isAt 1 = .ok (.getfield 154, 3) := by decide +kernel
theorem dX9_isAt_4 : decode cX9_isAt 4 = .ok (.ifCond .eq 31, 3) := by decide +kernel
theorem dX9_isAt_7 : decode cX9_isAt 7 = .ok (.aload_n 0, 1) := by decide +kernel
theorem dX9_isAt_8 : decode cX9_isAt 8 = .ok (.getfield 157, 3) := by decide +kernel
theorem dX9_isAt_11 : decode cX9_isAt 11 = .ok (.aload_n 0, 1) := by decide +kernel
theorem dX9_isAt_12 : decode cX9_isAt 12 = .ok (.getfield 160, 3) := by decide +kernel
theorem dX9_isAt_15 : decode cX9_isAt 15 = .ok (.if_icmp .ge 20, 3) := by decide +kernel
theorem dX9_isAt_18 : decode cX9_isAt 18 = .ok (.aload_n 0, 1) := by decide +kernel
theorem dX9_isAt_19 : decode cX9_isAt 19 = .ok (.getfield 30, 3) := by decide +kernel
theorem dX9_isAt_22 : decode cX9_isAt 22 = .ok (.aload_n 0, 1) := by decide +kernel
theorem dX9_isAt_23 : decode cX9_isAt 23 = .ok (.getfield 157, 3) := by decide +kernel
theorem dX9_isAt_26 : decode cX9_isAt 26 = .ok (.iaload, 1) := by decide +kernel
theorem dX9_isAt_27 : decode cX9_isAt 27 = .ok (.iload_n 1, 1) := by decide +kernel
theorem dX9_isAt_28 : decode cX9_isAt 28 = .ok (.if_icmp .ne 7, 3) := by decide +kernel
theorem dX9_isAt_31 : decode cX9_isAt 31 = .ok (.iconst 1, 1) := by decide +kernel
theorem dX9_isAt_32 : decode cX9_isAt 32 = .ok (.goto 4, 3) := by decide +kernel
theorem dX9_isAt_35 : decode cX9_isAt 35 = .ok (.iconst 0, 1) := by decide +kernel
theorem dX9_isAt_36 : decode cX9_isAt 36 = .ok (.ireturn, 1) := by decide +kernel
theorem dX9_takes_0 : decode cX9_takes 0 = .ok (.aload_n 0, 1) := by decide +kernel
theorem dX9_takes_1 : decode cX9_takes 1 = .ok (.iload_n 1, 1) := by decide +kernel
theorem dX9_takes_2 : decode cX9_takes 2 = .ok (.invokevirtual 163, 3) := by decide +kernel
theorem dX9_takes_5 : decode cX9_takes 5 = .ok (.ifCond .eq 16, 3) := by decide +kernel
theorem dX9_takes_8 : decode cX9_takes 8 = .ok (.aload_n 0, 1) := by decide +kernel
theorem dX9_takes_9 : decode cX9_takes 9 = .ok (.dup, 1) := by decide +kernel
theorem dX9_takes_10 : decode cX9_takes 10 = .ok (.getfield 157, 3) := by decide +kernel
theorem dX9_takes_13 : decode cX9_takes 13 = .ok (.iconst 1, 1) := by decide +kernel
theorem dX9_takes_14 : decode cX9_takes 14 = .ok (.iadd, 1) := by decide +kernel
theorem dX9_takes_15 : decode cX9_takes 15 = .ok (.putfield 157, 3) := by decide +kernel
theorem dX9_takes_18 : decode cX9_takes 18 = .ok (.goto 8, 3) := by decide +kernel
theorem dX9_takes_21 : decode cX9_takes 21 = .ok (.aload_n 0, 1) := by decide +kernel
theorem dX9_takes_22 : decode cX9_takes 22 = .ok (.iconst 0, 1) := by decide +kernel
theorem dX9_takes_23 : decode cX9_takes 23 = .ok (.putfield 154, 3) := by decide +kernel
theorem dX9_takes_26 : decode cX9_takes 26 = .ok (.return_, 1) := by decide +kernel
theorem dX9_isDigit_0 : decode cX9_isDigit 0 = .ok (.aload_n 0, 1) := by decide +kernel
theorem dX9_isDigit_1 : decode cX9_isDigit 1 = .ok (.getfield 154, 3) := by decide +kernel
theorem dX9_isDigit_4 : decode cX9_isDigit 4 = .ok (.ifCond .eq 46, 3) := by decide +kernel
theorem dX9_isDigit_7 : decode cX9_isDigit 7 = .ok (.aload_n 0, 1) := by decide +kernel
theorem dX9_isDigit_8 : decode cX9_isDigit 8 = .ok (.getfield 157, 3) := by decide +kernel
theorem dX9_isDigit_11 : decode cX9_isDigit 11 = .ok (.aload_n 0, 1) := by decide +kernel
theorem dX9_isDigit_12 : decode cX9_isDigit 12 = .ok (.getfield 160, 3) := by decide +kernel
theorem dX9_isDigit_15 : decode cX9_isDigit 15 = .ok (.if_icmp .ge 35, 3) := by decide +kernel
theorem dX9_isDigit_18 : decode cX9_isDigit 18 = .ok (.aload_n 0, 1) := by decide +kernel
theorem dX9_isDigit_19 : decode cX9_isDigit 19 = .ok (.getfield 30, 3) := by decide +kernel
theorem dX9_isDigit_22 : decode cX9_isDigit 22 = .ok (.aload_n 0, 1) := by decide +kernel
theorem dX9_isDigit_23 : decode cX9_isDigit 23 = .ok (.getfield 157, 3) := by decide +kernel
theorem dX9_isDigit_26 : decode cX9_isDigit 26 = .ok (.iaload, 1) := by decide +kernel
theorem dX9_isDigit_27 : decode cX9_isDigit 27 = .ok (.bipush 48, 2) := by decide +kernel
theorem dX9_isDigit_29 : decode cX9_isDigit 29 = .ok (.if_icmp .lt 21, 3) := by decide +kernel
theorem dX9_isDigit_32 : decode cX9_isDigit 32 = .ok (.aload_n 0, 1) := by decide +kernel
theorem dX9_isDigit_33 : decode cX9_isDigit 33 = .ok (.getfield 30, 3) := by decide +kernel
theorem dX9_isDigit_36 : decode cX9_isDigit 36 = .ok (.aload_n 0, 1) := by decide +kernel
theorem dX9_isDigit_37 : decode cX9_isDigit 37 = .ok (.getfield 157, 3) := by decide +kernel
theorem dX9_isDigit_40 : decode cX9_isDigit 40 = .ok (.iaload, 1) := by decide +kernel
theorem dX9_isDigit_41 : decode cX9_isDigit 41 = .ok (.bipush 57, 2) := by decide +kernel
theorem dX9_isDigit_43 : decode cX9_isDigit 43 = .ok (.if_icmp .gt 7, 3) := by decide +kernel
theorem dX9_isDigit_46 : decode cX9_isDigit 46 = .ok (.iconst 1, 1) := by decide +kernel
theorem dX9_isDigit_47 : decode cX9_isDigit 47 = .ok (.goto 4, 3) := by decide +kernel
theorem dX9_isDigit_50 : decode cX9_isDigit 50 = .ok (.iconst 0, 1) := by decide +kernel
theorem dX9_isDigit_51 : decode cX9_isDigit 51 = .ok (.ireturn, 1) := by decide +kernel
theorem dX9_number_0 : decode cX9_number 0 = .ok (.aload_n 0, 1) := by decide +kernel
theorem dX9_number_1 : decode cX9_number 1 = .ok (.invokevirtual 166, 3) := by decide +kernel
theorem dX9_number_4 : decode cX9_number 4 = .ok (.ifCond .ne 10, 3) := by decide +kernel
theorem dX9_number_7 : decode cX9_number 7 = .ok (.aload_n 0, 1) := by decide +kernel
theorem dX9_number_8 : decode cX9_number 8 = .ok (.iconst 0, 1) := by decide +kernel
theorem dX9_number_9 : decode cX9_number 9 = .ok (.putfield 154, 3) := by decide +kernel
theorem dX9_number_12 : decode cX9_number 12 = .ok (.iconst 0, 1) := by decide +kernel
theorem dX9_number_13 : decode cX9_number 13 = .ok (.ireturn, 1) := by decide +kernel
theorem dX9_number_14 : decode cX9_number 14 = .ok (.aload_n 0, 1) := by decide +kernel
theorem dX9_number_15 : decode cX9_number 15 = .ok (.getfield 30, 3) := by decide +kernel
theorem dX9_number_18 : decode cX9_number 18 = .ok (.aload_n 0, 1) := by decide +kernel
theorem dX9_number_19 : decode cX9_number 19 = .ok (.getfield 157, 3) := by decide +kernel
theorem dX9_number_22 : decode cX9_number 22 = .ok (.iaload, 1) := by decide +kernel
theorem dX9_number_23 : decode cX9_number 23 = .ok (.bipush 48, 2) := by decide +kernel
theorem dX9_number_25 : decode cX9_number 25 = .ok (.isub, 1) := by decide +kernel
theorem dX9_number_26 : decode cX9_number 26 = .ok (.istore_n 1, 1) := by decide +kernel
theorem dX9_number_27 : decode cX9_number 27 = .ok (.aload_n 0, 1) := by decide +kernel
theorem dX9_number_28 : decode cX9_number 28 = .ok (.dup, 1) := by decide +kernel
theorem dX9_number_29 : decode cX9_number 29 = .ok (.getfield 157, 3) := by decide +kernel
theorem dX9_number_32 : decode cX9_number 32 = .ok (.iconst 1, 1) := by decide +kernel
theorem dX9_number_33 : decode cX9_number 33 = .ok (.iadd, 1) := by decide +kernel
theorem dX9_number_34 : decode cX9_number 34 = .ok (.putfield 157, 3) := by decide +kernel
theorem dX9_number_37 : decode cX9_number 37 = .ok (.aload_n 0, 1) := by decide +kernel
theorem dX9_number_38 : decode cX9_number 38 = .ok (.invokevirtual 166, 3) := by decide +kernel
theorem dX9_number_41 : decode cX9_number 41 = .ok (.ifCond .eq 31, 3) := by decide +kernel
theorem dX9_number_44 : decode cX9_number 44 = .ok (.bipush 10, 2) := by decide +kernel
theorem dX9_number_46 : decode cX9_number 46 = .ok (.iload_n 1, 1) := by decide +kernel
theorem dX9_number_47 : decode cX9_number 47 = .ok (.imul, 1) := by decide +kernel
theorem dX9_number_48 : decode cX9_number 48 = .ok (.aload_n 0, 1) := by decide +kernel
theorem dX9_number_49 : decode cX9_number 49 = .ok (.getfield 30, 3) := by decide +kernel
theorem dX9_number_52 : decode cX9_number 52 = .ok (.aload_n 0, 1) := by decide +kernel
theorem dX9_number_53 : decode cX9_number 53 = .ok (.getfield 157, 3) := by decide +kernel
theorem dX9_number_56 : decode cX9_number 56 = .ok (.iaload, 1) := by decide +kernel
theorem dX9_number_57 : decode cX9_number 57 = .ok (.iadd, 1) := by decide +kernel
theorem dX9_number_58 : decode cX9_number 58 = .ok (.bipush 48, 2) := by decide +kernel
theorem dX9_number_60 : decode cX9_number 60 = .ok (.isub, 1) := by decide +kernel
theorem dX9_number_61 : decode cX9_number 61 = .ok (.istore_n 1, 1) := by decide +kernel
theorem dX9_number_62 : decode cX9_number 62 = .ok (.aload_n 0, 1) := by decide +kernel
theorem dX9_number_63 : decode cX9_number 63 = .ok (.dup, 1) := by decide +kernel
theorem dX9_number_64 : decode cX9_number 64 = .ok (.getfield 157, 3) := by decide +kernel
theorem dX9_number_67 : decode cX9_number 67 = .ok (.iconst 1, 1) := by decide +kernel
theorem dX9_number_68 : decode cX9_number 68 = .ok (.iadd, 1) := by decide +kernel
theorem dX9_number_69 : decode cX9_number 69 = .ok (.putfield 157, 3) := by decide +kernel
theorem dX9_number_72 : decode cX9_number 72 = .ok (.iload_n 1, 1) := by decide +kernel
theorem dX9_number_73 : decode cX9_number 73 = .ok (.ireturn, 1) := by decide +kernel
theorem dX9_test_0 : decode cX9_test 0 = .ok (.iconst (-1), 1) := by decide +kernel
theorem dX9_test_1 : decode cX9_test 1 = .ok (.istore_n 1, 1) := by decide +kernel
theorem dX9_test_2 : decode cX9_test 2 = .ok (.iconst 0, 1) := by decide +kernel
theorem dX9_test_3 : decode cX9_test 3 = .ok (.istore_n 2, 1) := by decide +kernel
theorem dX9_test_4 : decode cX9_test 4 = .ok (.iload_n 2, 1) := by decide +kernel
theorem dX9_test_5 : decode cX9_test 5 = .ok (.bipush 6, 2) := by decide +kernel
theorem dX9_test_7 : decode cX9_test 7 = .ok (.if_icmp .ge 28, 3) := by decide +kernel
theorem dX9_test_10 : decode cX9_test 10 = .ok (.aload_n 0, 1) := by decide +kernel
theorem dX9_test_11 : decode cX9_test 11 = .ok (.aload_n 0, 1) := by decide +kernel
theorem dX9_test_12 : decode cX9_test 12 = .ok (.getfield 36, 3) := by decide +kernel
theorem dX9_test_15 : decode cX9_test 15 = .ok (.iload_n 2, 1) := by decide +kernel
theorem dX9_test_16 : decode cX9_test 16 = .ok (.caload, 1) := by decide +kernel
theorem dX9_test_17 : decode cX9_test 17 = .ok (.invokevirtual 163, 3) := by decide +kernel
theorem dX9_test_20 : decode cX9_test 20 = .ok (.ifCond .eq 7, 3) := by decide +kernel
theorem dX9_test_23 : decode cX9_test 23 = .ok (.iload_n 2, 1) := by decide +kernel
theorem dX9_test_24 : decode cX9_test 24 = .ok (.goto 4, 3) := by decide +kernel
theorem dX9_test_27 : decode cX9_test 27 = .ok (.iload_n 1, 1) := by decide +kernel
theorem dX9_test_28 : decode cX9_test 28 = .ok (.istore_n 1, 1) := by decide +kernel
theorem dX9_test_29 : decode cX9_test 29 = .ok (.iinc 2 1, 3) := by decide +kernel
theorem dX9_test_32 : decode cX9_test 32 = .ok (.goto (-28), 3) := by decide +kernel
theorem dX9_test_35 : decode cX9_test 35 = .ok (.iload_n 1, 1) := by decide +kernel
theorem dX9_test_36 : decode cX9_test 36 = .ok (.iconst (-1), 1) := by decide +kernel
theorem dX9_test_37 : decode cX9_test 37 = .ok (.if_icmp .ne 10, 3) := by decide +kernel
theorem dX9_test_40 : decode cX9_test 40 = .ok (.aload_n 0, 1) := by decide +kernel
theorem dX9_test_41 : decode cX9_test 41 = .ok (.iconst 0, 1) := by decide +kernel
theorem dX9_test_42 : decode cX9_test 42 = .ok (.putfield 154, 3) := by decide +kernel
theorem dX9_test_45 : decode cX9_test 45 = .ok (.iconst 0, 1) := by decide +kernel
theorem dX9_test_46 : decode cX9_test 46 = .ok (.ireturn, 1) := by decide +kernel
theorem dX9_test_47 : decode cX9_test 47 = .ok (.aload_n 0, 1) := by decide +kernel
theorem dX9_test_48 : decode cX9_test 48 = .ok (.dup, 1) := by decide +kernel
theorem dX9_test_49 : decode cX9_test 49 = .ok (.getfield 157, 3) := by decide +kernel
theorem dX9_test_52 : decode cX9_test 52 = .ok (.iconst 1, 1) := by decide +kernel
theorem dX9_test_53 : decode cX9_test 53 = .ok (.iadd, 1) := by decide +kernel
theorem dX9_test_54 : decode cX9_test 54 = .ok (.putfield 157, 3) := by decide +kernel
theorem dX9_test_57 : decode cX9_test 57 = .ok (.aload_n 0, 1) := by decide +kernel
theorem dX9_test_58 : decode cX9_test 58 = .ok (.bipush 60, 2) := by decide +kernel
theorem dX9_test_60 : decode cX9_test 60 = .ok (.invokevirtual 163, 3) := by decide +kernel
theorem dX9_test_63 : decode cX9_test 63 = .ok (.ifCond .eq 7, 3) := by decide +kernel
theorem dX9_test_66 : decode cX9_test 66 = .ok (.iconst (-1), 1) := by decide +kernel
theorem dX9_test_67 : decode cX9_test 67 = .ok (.goto 17, 3) := by decide +kernel
theorem dX9_test_70 : decode cX9_test 70 = .ok (.aload_n 0, 1) := by decide +kernel
theorem dX9_test_71 : decode cX9_test 71 = .ok (.bipush 62, 2) := by decide +kernel
theorem dX9_test_73 : decode cX9_test 73 = .ok (.invokevirtual 163, 3) := by decide +kernel
theorem dX9_test_76 : decode cX9_test 76 = .ok (.ifCond .eq 7, 3) := by decide +kernel
theorem dX9_test_79 : decode cX9_test 79 = .ok (.iconst 1, 1) := by decide +kernel
theorem dX9_test_80 : decode cX9_test 80 = .ok (.goto 4, 3) := by decide +kernel
theorem dX9_test_83 : decode cX9_test 83 = .ok (.iconst 0, 1) := by decide +kernel
theorem dX9_test_84 : decode cX9_test 84 = .ok (.istore_n 2, 1) := by decide +kernel
theorem dX9_test_85 : decode cX9_test 85 = .ok (.aload_n 0, 1) := by decide +kernel
theorem dX9_test_86 : decode cX9_test 86 = .ok (.iload_n 2, 1) := by decide +kernel
theorem dX9_test_87 : decode cX9_test 87 = .ok (.ifCond .ge 8, 3) := by decide +kernel
theorem dX9_test_90 : decode cX9_test 90 = .ok (.bipush 60, 2) := by decide +kernel
theorem dX9_test_92 : decode cX9_test 92 = .ok (.goto 14, 3) := by decide +kernel
theorem dX9_test_95 : decode cX9_test 95 = .ok (.iload_n 2, 1) := by decide +kernel
theorem dX9_test_96 : decode cX9_test 96 = .ok (.ifCond .le 8, 3) := by decide +kernel
theorem dX9_test_99 : decode cX9_test 99 = .ok (.bipush 62, 2) := by decide +kernel
theorem dX9_test_101 : decode cX9_test 101 = .ok (.goto 5, 3) := by decide +kernel
theorem dX9_test_104 : decode cX9_test 104 = .ok (.bipush 61, 2) := by decide +kernel
theorem dX9_test_106 : decode cX9_test 106 = .ok (.invokevirtual 170, 3) := by decide +kernel
theorem dX9_test_109 : decode cX9_test 109 = .ok (.aload_n 0, 1) := by decide +kernel
theorem dX9_test_110 : decode cX9_test 110 = .ok (.invokevirtual 174, 3) := by decide +kernel
theorem dX9_test_113 : decode cX9_test 113 = .ok (.istore_n 3, 1) := by decide +kernel
theorem dX9_test_114 : decode cX9_test 114 = .ok (.iload_n 2, 1) := by decide +kernel
theorem dX9_test_115 : decode cX9_test 115 = .ok (.ifCond .ge 21, 3) := by decide +kernel
theorem dX9_test_118 : decode cX9_test 118 = .ok (.aload_n 0, 1) := by decide +kernel
theorem dX9_test_119 : decode cX9_test 119 = .ok (.getfield 33, 3) := by decide +kernel
theorem dX9_test_122 : decode cX9_test 122 = .ok (.iload_n 1, 1) := by decide +kernel
theorem dX9_test_123 : decode cX9_test 123 = .ok (.iaload, 1) := by decide +kernel
theorem dX9_test_124 : decode cX9_test 124 = .ok (.iload_n 3, 1) := by decide +kernel
theorem dX9_test_125 : decode cX9_test 125 = .ok (.if_icmp .ge 7, 3) := by decide +kernel
theorem dX9_test_128 : decode cX9_test 128 = .ok (.iconst 1, 1) := by decide +kernel
theorem dX9_test_129 : decode cX9_test 129 = .ok (.goto 44, 3) := by decide +kernel
theorem dX9_test_132 : decode cX9_test 132 = .ok (.iconst 0, 1) := by decide +kernel
theorem dX9_test_133 : decode cX9_test 133 = .ok (.goto 40, 3) := by decide +kernel
theorem dX9_test_136 : decode cX9_test 136 = .ok (.iload_n 2, 1) := by decide +kernel
theorem dX9_test_137 : decode cX9_test 137 = .ok (.ifCond .le 21, 3) := by decide +kernel
theorem dX9_test_140 : decode cX9_test 140 = .ok (.aload_n 0, 1) := by decide +kernel
theorem dX9_test_141 : decode cX9_test 141 = .ok (.getfield 33, 3) := by decide +kernel
theorem dX9_test_144 : decode cX9_test 144 = .ok (.iload_n 1, 1) := by decide +kernel
theorem dX9_test_145 : decode cX9_test 145 = .ok (.iaload, 1) := by decide +kernel
theorem dX9_test_146 : decode cX9_test 146 = .ok (.iload_n 3, 1) := by decide +kernel
theorem dX9_test_147 : decode cX9_test 147 = .ok (.if_icmp .le 7, 3) := by decide +kernel
theorem dX9_test_150 : decode cX9_test 150 = .ok (.iconst 1, 1) := by decide +kernel
theorem dX9_test_151 : decode cX9_test 151 = .ok (.goto 22, 3) := by decide +kernel
theorem dX9_test_154 : decode cX9_test 154 = .ok (.iconst 0, 1) := by decide +kernel
theorem dX9_test_155 : decode cX9_test 155 = .ok (.goto 18, 3) := by decide +kernel
theorem dX9_test_158 : decode cX9_test 158 = .ok (.aload_n 0, 1) := by decide +kernel
theorem dX9_test_159 : decode cX9_test 159 = .ok (.getfield 33, 3) := by decide +kernel
theorem dX9_test_162 : decode cX9_test 162 = .ok (.iload_n 1, 1) := by decide +kernel
theorem dX9_test_163 : decode cX9_test 163 = .ok (.iaload, 1) := by decide +kernel
theorem dX9_test_164 : decode cX9_test 164 = .ok (.iload_n 3, 1) := by decide +kernel
theorem dX9_test_165 : decode cX9_test 165 = .ok (.if_icmp .ne 7, 3) := by decide +kernel
theorem dX9_test_168 : decode cX9_test 168 = .ok (.iconst 1, 1) := by decide +kernel
theorem dX9_test_169 : decode cX9_test 169 = .ok (.goto 4, 3) := by decide +kernel
theorem dX9_test_172 : decode cX9_test 172 = .ok (.iconst 0, 1) := by decide +kernel
theorem dX9_test_173 : decode cX9_test 173 = .ok (.ireturn, 1) := by decide +kernel
theorem dX9_factor_0 : decode cX9_factor 0 = .ok (.aload_n 0, 1) := by decide +kernel
theorem dX9_factor_1 : decode cX9_factor 1 = .ok (.getfield 178, 3) := by decide +kernel
theorem dX9_factor_4 : decode cX9_factor 4 = .ok (.iconst 4, 1) := by decide +kernel
theorem dX9_factor_5 : decode cX9_factor 5 = .ok (.if_icmp .ge 58, 3) := by decide +kernel
theorem dX9_factor_8 : decode cX9_factor 8 = .ok (.aload_n 0, 1) := by decide +kernel
theorem dX9_factor_9 : decode cX9_factor 9 = .ok (.bipush 33, 2) := by decide +kernel
theorem dX9_factor_11 : decode cX9_factor 11 = .ok (.invokevirtual 163, 3) := by decide +kernel
theorem dX9_factor_14 : decode cX9_factor 14 = .ok (.ifCond .eq 49, 3) := by decide +kernel
theorem dX9_factor_17 : decode cX9_factor 17 = .ok (.aload_n 0, 1) := by decide +kernel
theorem dX9_factor_18 : decode cX9_factor 18 = .ok (.dup, 1) := by decide +kernel
theorem dX9_factor_19 : decode cX9_factor 19 = .ok (.getfield 157, 3) := by decide +kernel
theorem dX9_factor_22 : decode cX9_factor 22 = .ok (.iconst 1, 1) := by decide +kernel
theorem dX9_factor_23 : decode cX9_factor 23 = .ok (.iadd, 1) := by decide +kernel
theorem dX9_factor_24 : decode cX9_factor 24 = .ok (.putfield 157, 3) := by decide +kernel
theorem dX9_factor_27 : decode cX9_factor 27 = .ok (.aload_n 0, 1) := by decide +kernel
theorem dX9_factor_28 : decode cX9_factor 28 = .ok (.dup, 1) := by decide +kernel
theorem dX9_factor_29 : decode cX9_factor 29 = .ok (.getfield 178, 3) := by decide +kernel
theorem dX9_factor_32 : decode cX9_factor 32 = .ok (.iconst 1, 1) := by decide +kernel
theorem dX9_factor_33 : decode cX9_factor 33 = .ok (.iadd, 1) := by decide +kernel
theorem dX9_factor_34 : decode cX9_factor 34 = .ok (.putfield 178, 3) := by decide +kernel
theorem dX9_factor_37 : decode cX9_factor 37 = .ok (.aload_n 0, 1) := by decide +kernel
theorem dX9_factor_38 : decode cX9_factor 38 = .ok (.invokevirtual 181, 3) := by decide +kernel
theorem dX9_factor_41 : decode cX9_factor 41 = .ok (.ifCond .ne 7, 3) := by decide +kernel
theorem dX9_factor_44 : decode cX9_factor 44 = .ok (.iconst 1, 1) := by decide +kernel
theorem dX9_factor_45 : decode cX9_factor 45 = .ok (.goto 4, 3) := by decide +kernel
theorem dX9_factor_48 : decode cX9_factor 48 = .ok (.iconst 0, 1) := by decide +kernel
theorem dX9_factor_49 : decode cX9_factor 49 = .ok (.istore_n 1, 1) := by decide +kernel
theorem dX9_factor_50 : decode cX9_factor 50 = .ok (.aload_n 0, 1) := by decide +kernel
theorem dX9_factor_51 : decode cX9_factor 51 = .ok (.dup, 1) := by decide +kernel
theorem dX9_factor_52 : decode cX9_factor 52 = .ok (.getfield 178, 3) := by decide +kernel
theorem dX9_factor_55 : decode cX9_factor 55 = .ok (.iconst 1, 1) := by decide +kernel
theorem dX9_factor_56 : decode cX9_factor 56 = .ok (.isub, 1) := by decide +kernel
theorem dX9_factor_57 : decode cX9_factor 57 = .ok (.putfield 178, 3) := by decide +kernel
theorem dX9_factor_60 : decode cX9_factor 60 = .ok (.goto 69, 3) := by decide +kernel
theorem dX9_factor_63 : decode cX9_factor 63 = .ok (.aload_n 0, 1) := by decide +kernel
theorem dX9_factor_64 : decode cX9_factor 64 = .ok (.getfield 178, 3) := by decide +kernel
theorem dX9_factor_67 : decode cX9_factor 67 = .ok (.iconst 4, 1) := by decide +kernel
theorem dX9_factor_68 : decode cX9_factor 68 = .ok (.if_icmp .ge 56, 3) := by decide +kernel
theorem dX9_factor_71 : decode cX9_factor 71 = .ok (.aload_n 0, 1) := by decide +kernel
theorem dX9_factor_72 : decode cX9_factor 72 = .ok (.bipush 40, 2) := by decide +kernel
theorem dX9_factor_74 : decode cX9_factor 74 = .ok (.invokevirtual 163, 3) := by decide +kernel
theorem dX9_factor_77 : decode cX9_factor 77 = .ok (.ifCond .eq 47, 3) := by decide +kernel
theorem dX9_factor_80 : decode cX9_factor 80 = .ok (.aload_n 0, 1) := by decide +kernel
theorem dX9_factor_81 : decode cX9_factor 81 = .ok (.dup, 1) := by decide +kernel
theorem dX9_factor_82 : decode cX9_factor 82 = .ok (.getfield 157, 3) := by decide +kernel
theorem dX9_factor_85 : decode cX9_factor 85 = .ok (.iconst 1, 1) := by decide +kernel
theorem dX9_factor_86 : decode cX9_factor 86 = .ok (.iadd, 1) := by decide +kernel
theorem dX9_factor_87 : decode cX9_factor 87 = .ok (.putfield 157, 3) := by decide +kernel
theorem dX9_factor_90 : decode cX9_factor 90 = .ok (.aload_n 0, 1) := by decide +kernel
theorem dX9_factor_91 : decode cX9_factor 91 = .ok (.dup, 1) := by decide +kernel
theorem dX9_factor_92 : decode cX9_factor 92 = .ok (.getfield 178, 3) := by decide +kernel
theorem dX9_factor_95 : decode cX9_factor 95 = .ok (.iconst 1, 1) := by decide +kernel
theorem dX9_factor_96 : decode cX9_factor 96 = .ok (.iadd, 1) := by decide +kernel
theorem dX9_factor_97 : decode cX9_factor 97 = .ok (.putfield 178, 3) := by decide +kernel
theorem dX9_factor_100 : decode cX9_factor 100 = .ok (.aload_n 0, 1) := by decide +kernel
theorem dX9_factor_101 : decode cX9_factor 101 = .ok (.invokevirtual 184, 3) := by decide +kernel
theorem dX9_factor_104 : decode cX9_factor 104 = .ok (.istore_n 1, 1) := by decide +kernel
theorem dX9_factor_105 : decode cX9_factor 105 = .ok (.aload_n 0, 1) := by decide +kernel
theorem dX9_factor_106 : decode cX9_factor 106 = .ok (.dup, 1) := by decide +kernel
theorem dX9_factor_107 : decode cX9_factor 107 = .ok (.getfield 178, 3) := by decide +kernel
theorem dX9_factor_110 : decode cX9_factor 110 = .ok (.iconst 1, 1) := by decide +kernel
theorem dX9_factor_111 : decode cX9_factor 111 = .ok (.isub, 1) := by decide +kernel
theorem dX9_factor_112 : decode cX9_factor 112 = .ok (.putfield 178, 3) := by decide +kernel
theorem dX9_factor_115 : decode cX9_factor 115 = .ok (.aload_n 0, 1) := by decide +kernel
theorem dX9_factor_116 : decode cX9_factor 116 = .ok (.bipush 41, 2) := by decide +kernel
theorem dX9_factor_118 : decode cX9_factor 118 = .ok (.invokevirtual 170, 3) := by decide +kernel
theorem dX9_factor_121 : decode cX9_factor 121 = .ok (.goto 8, 3) := by decide +kernel
theorem dX9_factor_124 : decode cX9_factor 124 = .ok (.aload_n 0, 1) := by decide +kernel
theorem dX9_factor_125 : decode cX9_factor 125 = .ok (.invokevirtual 187, 3) := by decide +kernel
theorem dX9_factor_128 : decode cX9_factor 128 = .ok (.istore_n 1, 1) := by decide +kernel
theorem dX9_factor_129 : decode cX9_factor 129 = .ok (.iload_n 1, 1) := by decide +kernel
theorem dX9_factor_130 : decode cX9_factor 130 = .ok (.ireturn, 1) := by decide +kernel
theorem dX9_both_0 : decode cX9_both 0 = .ok (.aload_n 0, 1) := by decide +kernel
theorem dX9_both_1 : decode cX9_both 1 = .ok (.invokevirtual 181, 3) := by decide +kernel
theorem dX9_both_4 : decode cX9_both 4 = .ok (.istore_n 1, 1) := by decide +kernel
theorem dX9_both_5 : decode cX9_both 5 = .ok (.aload_n 0, 1) := by decide +kernel
theorem dX9_both_6 : decode cX9_both 6 = .ok (.bipush 38, 2) := by decide +kernel
theorem dX9_both_8 : decode cX9_both 8 = .ok (.invokevirtual 163, 3) := by decide +kernel
theorem dX9_both_11 : decode cX9_both 11 = .ok (.ifCond .eq 35, 3) := by decide +kernel
theorem dX9_both_14 : decode cX9_both 14 = .ok (.aload_n 0, 1) := by decide +kernel
theorem dX9_both_15 : decode cX9_both 15 = .ok (.dup, 1) := by decide +kernel
theorem dX9_both_16 : decode cX9_both 16 = .ok (.getfield 157, 3) := by decide +kernel
theorem dX9_both_19 : decode cX9_both 19 = .ok (.iconst 1, 1) := by decide +kernel
theorem dX9_both_20 : decode cX9_both 20 = .ok (.iadd, 1) := by decide +kernel
theorem dX9_both_21 : decode cX9_both 21 = .ok (.putfield 157, 3) := by decide +kernel
theorem dX9_both_24 : decode cX9_both 24 = .ok (.aload_n 0, 1) := by decide +kernel
theorem dX9_both_25 : decode cX9_both 25 = .ok (.invokevirtual 181, 3) := by decide +kernel
theorem dX9_both_28 : decode cX9_both 28 = .ok (.istore_n 2, 1) := by decide +kernel
theorem dX9_both_29 : decode cX9_both 29 = .ok (.iload_n 1, 1) := by decide +kernel
theorem dX9_both_30 : decode cX9_both 30 = .ok (.ifCond .eq 11, 3) := by decide +kernel
theorem dX9_both_33 : decode cX9_both 33 = .ok (.iload_n 2, 1) := by decide +kernel
theorem dX9_both_34 : decode cX9_both 34 = .ok (.ifCond .eq 7, 3) := by decide +kernel
theorem dX9_both_37 : decode cX9_both 37 = .ok (.iconst 1, 1) := by decide +kernel
theorem dX9_both_38 : decode cX9_both 38 = .ok (.goto 4, 3) := by decide +kernel
theorem dX9_both_41 : decode cX9_both 41 = .ok (.iconst 0, 1) := by decide +kernel
theorem dX9_both_42 : decode cX9_both 42 = .ok (.istore_n 1, 1) := by decide +kernel
theorem dX9_both_43 : decode cX9_both 43 = .ok (.goto (-38), 3) := by decide +kernel
theorem dX9_both_46 : decode cX9_both 46 = .ok (.iload_n 1, 1) := by decide +kernel
theorem dX9_both_47 : decode cX9_both 47 = .ok (.ireturn, 1) := by decide +kernel
theorem dX9_any_0 : decode cX9_any 0 = .ok (.aload_n 0, 1) := by decide +kernel
theorem dX9_any_1 : decode cX9_any 1 = .ok (.invokevirtual 190, 3) := by decide +kernel
theorem dX9_any_4 : decode cX9_any 4 = .ok (.istore_n 1, 1) := by decide +kernel
theorem dX9_any_5 : decode cX9_any 5 = .ok (.aload_n 0, 1) := by decide +kernel
theorem dX9_any_6 : decode cX9_any 6 = .ok (.bipush 124, 2) := by decide +kernel
theorem dX9_any_8 : decode cX9_any 8 = .ok (.invokevirtual 163, 3) := by decide +kernel
theorem dX9_any_11 : decode cX9_any 11 = .ok (.ifCond .eq 35, 3) := by decide +kernel
theorem dX9_any_14 : decode cX9_any 14 = .ok (.aload_n 0, 1) := by decide +kernel
theorem dX9_any_15 : decode cX9_any 15 = .ok (.dup, 1) := by decide +kernel
theorem dX9_any_16 : decode cX9_any 16 = .ok (.getfield 157, 3) := by decide +kernel
theorem dX9_any_19 : decode cX9_any 19 = .ok (.iconst 1, 1) := by decide +kernel
theorem dX9_any_20 : decode cX9_any 20 = .ok (.iadd, 1) := by decide +kernel
theorem dX9_any_21 : decode cX9_any 21 = .ok (.putfield 157, 3) := by decide +kernel
theorem dX9_any_24 : decode cX9_any 24 = .ok (.aload_n 0, 1) := by decide +kernel
theorem dX9_any_25 : decode cX9_any 25 = .ok (.invokevirtual 190, 3) := by decide +kernel
theorem dX9_any_28 : decode cX9_any 28 = .ok (.istore_n 2, 1) := by decide +kernel
theorem dX9_any_29 : decode cX9_any 29 = .ok (.iload_n 1, 1) := by decide +kernel
theorem dX9_any_30 : decode cX9_any 30 = .ok (.ifCond .ne 7, 3) := by decide +kernel
theorem dX9_any_33 : decode cX9_any 33 = .ok (.iload_n 2, 1) := by decide +kernel
theorem dX9_any_34 : decode cX9_any 34 = .ok (.ifCond .eq 7, 3) := by decide +kernel
theorem dX9_any_37 : decode cX9_any 37 = .ok (.iconst 1, 1) := by decide +kernel
theorem dX9_any_38 : decode cX9_any 38 = .ok (.goto 4, 3) := by decide +kernel
theorem dX9_any_41 : decode cX9_any 41 = .ok (.iconst 0, 1) := by decide +kernel
theorem dX9_any_42 : decode cX9_any 42 = .ok (.istore_n 1, 1) := by decide +kernel
theorem dX9_any_43 : decode cX9_any 43 = .ok (.goto (-38), 3) := by decide +kernel
theorem dX9_any_46 : decode cX9_any 46 = .ok (.iload_n 1, 1) := by decide +kernel
theorem dX9_any_47 : decode cX9_any 47 = .ok (.ireturn, 1) := by decide +kernel
theorem dX9_clause_0 : decode cX9_clause 0 = .ok (.iconst (-1), 1) := by decide +kernel
theorem dX9_clause_1 : decode cX9_clause 1 = .ok (.istore_n 1, 1) := by decide +kernel
theorem dX9_clause_2 : decode cX9_clause 2 = .ok (.iconst 0, 1) := by decide +kernel
theorem dX9_clause_3 : decode cX9_clause 3 = .ok (.istore_n 2, 1) := by decide +kernel
theorem dX9_clause_4 : decode cX9_clause 4 = .ok (.iload_n 2, 1) := by decide +kernel
theorem dX9_clause_5 : decode cX9_clause 5 = .ok (.iconst 3, 1) := by decide +kernel
theorem dX9_clause_6 : decode cX9_clause 6 = .ok (.if_icmp .ge 28, 3) := by decide +kernel
theorem dX9_clause_9 : decode cX9_clause 9 = .ok (.aload_n 0, 1) := by decide +kernel
theorem dX9_clause_10 : decode cX9_clause 10 = .ok (.aload_n 0, 1) := by decide +kernel
theorem dX9_clause_11 : decode cX9_clause 11 = .ok (.getfield 40, 3) := by decide +kernel
theorem dX9_clause_14 : decode cX9_clause 14 = .ok (.iload_n 2, 1) := by decide +kernel
theorem dX9_clause_15 : decode cX9_clause 15 = .ok (.caload, 1) := by decide +kernel
theorem dX9_clause_16 : decode cX9_clause 16 = .ok (.invokevirtual 163, 3) := by decide +kernel
theorem dX9_clause_19 : decode cX9_clause 19 = .ok (.ifCond .eq 7, 3) := by decide +kernel
theorem dX9_clause_22 : decode cX9_clause 22 = .ok (.iload_n 2, 1) := by decide +kernel
theorem dX9_clause_23 : decode cX9_clause 23 = .ok (.goto 4, 3) := by decide +kernel
theorem dX9_clause_26 : decode cX9_clause 26 = .ok (.iload_n 1, 1) := by decide +kernel
theorem dX9_clause_27 : decode cX9_clause 27 = .ok (.istore_n 1, 1) := by decide +kernel
theorem dX9_clause_28 : decode cX9_clause 28 = .ok (.iinc 2 1, 3) := by decide +kernel
theorem dX9_clause_31 : decode cX9_clause 31 = .ok (.goto (-27), 3) := by decide +kernel
theorem dX9_clause_34 : decode cX9_clause 34 = .ok (.iload_n 1, 1) := by decide +kernel
theorem dX9_clause_35 : decode cX9_clause 35 = .ok (.iconst (-1), 1) := by decide +kernel
theorem dX9_clause_36 : decode cX9_clause 36 = .ok (.if_icmp .ne 9, 3) := by decide +kernel
theorem dX9_clause_39 : decode cX9_clause 39 = .ok (.aload_n 0, 1) := by decide +kernel
theorem dX9_clause_40 : decode cX9_clause 40 = .ok (.iconst 0, 1) := by decide +kernel
theorem dX9_clause_41 : decode cX9_clause 41 = .ok (.putfield 154, 3) := by decide +kernel
theorem dX9_clause_44 : decode cX9_clause 44 = .ok (.return_, 1) := by decide +kernel
theorem dX9_clause_45 : decode cX9_clause 45 = .ok (.iconst 0, 1) := by decide +kernel
theorem dX9_clause_46 : decode cX9_clause 46 = .ok (.istore_n 2, 1) := by decide +kernel
theorem dX9_clause_47 : decode cX9_clause 47 = .ok (.iload_n 2, 1) := by decide +kernel
theorem dX9_clause_48 : decode cX9_clause 48 = .ok (.iconst 5, 1) := by decide +kernel
theorem dX9_clause_49 : decode cX9_clause 49 = .ok (.if_icmp .ge 36, 3) := by decide +kernel
theorem dX9_clause_52 : decode cX9_clause 52 = .ok (.aload_n 0, 1) := by decide +kernel
theorem dX9_clause_53 : decode cX9_clause 53 = .ok (.getfield 43, 3) := by decide +kernel
theorem dX9_clause_56 : decode cX9_clause 56 = .ok (.iconst 5, 1) := by decide +kernel
theorem dX9_clause_57 : decode cX9_clause 57 = .ok (.iload_n 1, 1) := by decide +kernel
theorem dX9_clause_58 : decode cX9_clause 58 = .ok (.imul, 1) := by decide +kernel
theorem dX9_clause_59 : decode cX9_clause 59 = .ok (.iload_n 2, 1) := by decide +kernel
theorem dX9_clause_60 : decode cX9_clause 60 = .ok (.iadd, 1) := by decide +kernel
theorem dX9_clause_61 : decode cX9_clause 61 = .ok (.caload, 1) := by decide +kernel
theorem dX9_clause_62 : decode cX9_clause 62 = .ok (.ifCond .eq 23, 3) := by decide +kernel
theorem dX9_clause_65 : decode cX9_clause 65 = .ok (.aload_n 0, 1) := by decide +kernel
theorem dX9_clause_66 : decode cX9_clause 66 = .ok (.aload_n 0, 1) := by decide +kernel
theorem dX9_clause_67 : decode cX9_clause 67 = .ok (.getfield 43, 3) := by decide +kernel
theorem dX9_clause_70 : decode cX9_clause 70 = .ok (.iconst 5, 1) := by decide +kernel
theorem dX9_clause_71 : decode cX9_clause 71 = .ok (.iload_n 1, 1) := by decide +kernel
theorem dX9_clause_72 : decode cX9_clause 72 = .ok (.imul, 1) := by decide +kernel
theorem dX9_clause_73 : decode cX9_clause 73 = .ok (.iload_n 2, 1) := by decide +kernel
theorem dX9_clause_74 : decode cX9_clause 74 = .ok (.iadd, 1) := by decide +kernel
theorem dX9_clause_75 : decode cX9_clause 75 = .ok (.caload, 1) := by decide +kernel
theorem dX9_clause_76 : decode cX9_clause 76 = .ok (.invokevirtual 170, 3) := by decide +kernel
theorem dX9_clause_79 : decode cX9_clause 79 = .ok (.iinc 2 1, 3) := by decide +kernel
theorem dX9_clause_82 : decode cX9_clause 82 = .ok (.goto (-35), 3) := by decide +kernel
theorem dX9_clause_85 : decode cX9_clause 85 = .ok (.aload_n 0, 1) := by decide +kernel
theorem dX9_clause_86 : decode cX9_clause 86 = .ok (.bipush 32, 2) := by decide +kernel
theorem dX9_clause_88 : decode cX9_clause 88 = .ok (.invokevirtual 170, 3) := by decide +kernel
theorem dX9_clause_91 : decode cX9_clause 91 = .ok (.aload_n 0, 1) := by decide +kernel
theorem dX9_clause_92 : decode cX9_clause 92 = .ok (.invokevirtual 174, 3) := by decide +kernel
theorem dX9_clause_95 : decode cX9_clause 95 = .ok (.istore_n 2, 1) := by decide +kernel
theorem dX9_clause_96 : decode cX9_clause 96 = .ok (.iload_n 1, 1) := by decide +kernel
theorem dX9_clause_97 : decode cX9_clause 97 = .ok (.iconst 2, 1) := by decide +kernel
theorem dX9_clause_98 : decode cX9_clause 98 = .ok (.if_icmp .ne 9, 3) := by decide +kernel
theorem dX9_clause_101 : decode cX9_clause 101 = .ok (.aload_n 0, 1) := by decide +kernel
theorem dX9_clause_102 : decode cX9_clause 102 = .ok (.iload_n 2, 1) := by decide +kernel
theorem dX9_clause_103 : decode cX9_clause 103 = .ok (.putfield 193, 3) := by decide +kernel
theorem dX9_clause_106 : decode cX9_clause 106 = .ok (.return_, 1) := by decide +kernel
theorem dX9_clause_107 : decode cX9_clause 107 = .ok (.aload_n 0, 1) := by decide +kernel
theorem dX9_clause_108 : decode cX9_clause 108 = .ok (.bipush 32, 2) := by decide +kernel
theorem dX9_clause_110 : decode cX9_clause 110 = .ok (.invokevirtual 170, 3) := by decide +kernel
theorem dX9_clause_113 : decode cX9_clause 113 = .ok (.aload_n 0, 1) := by decide +kernel
theorem dX9_clause_114 : decode cX9_clause 114 = .ok (.iconst 0, 1) := by decide +kernel
theorem dX9_clause_115 : decode cX9_clause 115 = .ok (.putfield 178, 3) := by decide +kernel
theorem dX9_clause_118 : decode cX9_clause 118 = .ok (.aload_n 0, 1) := by decide +kernel
theorem dX9_clause_119 : decode cX9_clause 119 = .ok (.invokevirtual 184, 3) := by decide +kernel
theorem dX9_clause_122 : decode cX9_clause 122 = .ok (.istore_n 3, 1) := by decide +kernel
theorem dX9_clause_123 : decode cX9_clause 123 = .ok (.aload_n 0, 1) := by decide +kernel
theorem dX9_clause_124 : decode cX9_clause 124 = .ok (.dup, 1) := by decide +kernel
theorem dX9_clause_125 : decode cX9_clause 125 = .ok (.getfield 196, 3) := by decide +kernel
theorem dX9_clause_128 : decode cX9_clause 128 = .ok (.iload_n 3, 1) := by decide +kernel
theorem dX9_clause_129 : decode cX9_clause 129 = .ok (.ifCond .ne 7, 3) := by decide +kernel
theorem dX9_clause_132 : decode cX9_clause 132 = .ok (.iconst 0, 1) := by decide +kernel
theorem dX9_clause_133 : decode cX9_clause 133 = .ok (.goto 13, 3) := by decide +kernel
theorem dX9_clause_136 : decode cX9_clause 136 = .ok (.iload_n 1, 1) := by decide +kernel
theorem dX9_clause_137 : decode cX9_clause 137 = .ok (.ifCond .ne 7, 3) := by decide +kernel
theorem dX9_clause_140 : decode cX9_clause 140 = .ok (.iload_n 2, 1) := by decide +kernel
theorem dX9_clause_141 : decode cX9_clause 141 = .ok (.goto 5, 3) := by decide +kernel
theorem dX9_clause_144 : decode cX9_clause 144 = .ok (.iload_n 2, 1) := by decide +kernel
theorem dX9_clause_145 : decode cX9_clause 145 = .ok (.ineg, 1) := by decide +kernel
theorem dX9_clause_146 : decode cX9_clause 146 = .ok (.iadd, 1) := by decide +kernel
theorem dX9_clause_147 : decode cX9_clause 147 = .ok (.putfield 196, 3) := by decide +kernel
theorem dX9_clause_150 : decode cX9_clause 150 = .ok (.return_, 1) := by decide +kernel
theorem dX9_readAll_0 : decode cX9_readAll 0 = .ok (.aload_n 0, 1) := by decide +kernel
theorem dX9_readAll_1 : decode cX9_readAll 1 = .ok (.iconst 0, 1) := by decide +kernel
theorem dX9_readAll_2 : decode cX9_readAll 2 = .ok (.putfield 157, 3) := by decide +kernel
theorem dX9_readAll_5 : decode cX9_readAll 5 = .ok (.aload_n 0, 1) := by decide +kernel
theorem dX9_readAll_6 : decode cX9_readAll 6 = .ok (.iconst 1, 1) := by decide +kernel
theorem dX9_readAll_7 : decode cX9_readAll 7 = .ok (.putfield 154, 3) := by decide +kernel
theorem dX9_readAll_10 : decode cX9_readAll 10 = .ok (.aload_n 0, 1) := by decide +kernel
theorem dX9_readAll_11 : decode cX9_readAll 11 = .ok (.iconst 3, 1) := by decide +kernel
theorem dX9_readAll_12 : decode cX9_readAll 12 = .ok (.putfield 196, 3) := by decide +kernel
theorem dX9_readAll_15 : decode cX9_readAll 15 = .ok (.aload_n 0, 1) := by decide +kernel
theorem dX9_readAll_16 : decode cX9_readAll 16 = .ok (.iconst 0, 1) := by decide +kernel
theorem dX9_readAll_17 : decode cX9_readAll 17 = .ok (.putfield 193, 3) := by decide +kernel
theorem dX9_readAll_20 : decode cX9_readAll 20 = .ok (.iconst 1, 1) := by decide +kernel
theorem dX9_readAll_21 : decode cX9_readAll 21 = .ok (.istore_n 1, 1) := by decide +kernel
theorem dX9_readAll_22 : decode cX9_readAll 22 = .ok (.aload_n 0, 1) := by decide +kernel
theorem dX9_readAll_23 : decode cX9_readAll 23 = .ok (.invokevirtual 199, 3) := by decide +kernel
theorem dX9_readAll_26 : decode cX9_readAll 26 = .ok (.iload_n 1, 1) := by decide +kernel
theorem dX9_readAll_27 : decode cX9_readAll 27 = .ok (.bipush 10, 2) := by decide +kernel
theorem dX9_readAll_29 : decode cX9_readAll 29 = .ok (.if_icmp .ge 32, 3) := by decide +kernel
theorem dX9_readAll_32 : decode cX9_readAll 32 = .ok (.aload_n 0, 1) := by decide +kernel
theorem dX9_readAll_33 : decode cX9_readAll 33 = .ok (.bipush 59, 2) := by decide +kernel
theorem dX9_readAll_35 : decode cX9_readAll 35 = .ok (.invokevirtual 163, 3) := by decide +kernel
theorem dX9_readAll_38 : decode cX9_readAll 38 = .ok (.ifCond .eq 23, 3) := by decide +kernel
theorem dX9_readAll_41 : decode cX9_readAll 41 = .ok (.aload_n 0, 1) := by decide +kernel
theorem dX9_readAll_42 : decode cX9_readAll 42 = .ok (.dup, 1) := by decide +kernel
theorem dX9_readAll_43 : decode cX9_readAll 43 = .ok (.getfield 157, 3) := by decide +kernel
theorem dX9_readAll_46 : decode cX9_readAll 46 = .ok (.iconst 1, 1) := by decide +kernel
theorem dX9_readAll_47 : decode cX9_readAll 47 = .ok (.iadd, 1) := by decide +kernel
theorem dX9_readAll_48 : decode cX9_readAll 48 = .ok (.putfield 157, 3) := by decide +kernel
theorem dX9_readAll_51 : decode cX9_readAll 51 = .ok (.aload_n 0, 1) := by decide +kernel
theorem dX9_readAll_52 : decode cX9_readAll 52 = .ok (.invokevirtual 199, 3) := by decide +kernel
theorem dX9_readAll_55 : decode cX9_readAll 55 = .ok (.iinc 1 1, 3) := by decide +kernel
theorem dX9_readAll_58 : decode cX9_readAll 58 = .ok (.goto (-32), 3) := by decide +kernel
theorem dX9_readAll_61 : decode cX9_readAll 61 = .ok (.aload_n 0, 1) := by decide +kernel
theorem dX9_readAll_62 : decode cX9_readAll 62 = .ok (.getfield 154, 3) := by decide +kernel
theorem dX9_readAll_65 : decode cX9_readAll 65 = .ok (.ifCond .eq 18, 3) := by decide +kernel
theorem dX9_readAll_68 : decode cX9_readAll 68 = .ok (.aload_n 0, 1) := by decide +kernel
theorem dX9_readAll_69 : decode cX9_readAll 69 = .ok (.getfield 157, 3) := by decide +kernel
theorem dX9_readAll_72 : decode cX9_readAll 72 = .ok (.aload_n 0, 1) := by decide +kernel
theorem dX9_readAll_73 : decode cX9_readAll 73 = .ok (.getfield 160, 3) := by decide +kernel
theorem dX9_readAll_76 : decode cX9_readAll 76 = .ok (.if_icmp .ne 7, 3) := by decide +kernel
theorem dX9_readAll_79 : decode cX9_readAll 79 = .ok (.iconst 1, 1) := by decide +kernel
theorem dX9_readAll_80 : decode cX9_readAll 80 = .ok (.goto 4, 3) := by decide +kernel
theorem dX9_readAll_83 : decode cX9_readAll 83 = .ok (.iconst 0, 1) := by decide +kernel
theorem dX9_readAll_84 : decode cX9_readAll 84 = .ok (.ireturn, 1) := by decide +kernel
theorem dX9_readFor_0 : decode cX9_readFor 0 = .ok (.aload_n 0, 1) := by decide +kernel
theorem dX9_readFor_1 : decode cX9_readFor 1 = .ok (.getfield 33, 3) := by decide +kernel
theorem dX9_readFor_4 : decode cX9_readFor 4 = .ok (.iconst 0, 1) := by decide +kernel
theorem dX9_readFor_5 : decode cX9_readFor 5 = .ok (.iload_n 1, 1) := by decide +kernel
theorem dX9_readFor_6 : decode cX9_readFor 6 = .ok (.iastore, 1) := by decide +kernel
theorem dX9_readFor_7 : decode cX9_readFor 7 = .ok (.aload_n 0, 1) := by decide +kernel
theorem dX9_readFor_8 : decode cX9_readFor 8 = .ok (.getfield 33, 3) := by decide +kernel
theorem dX9_readFor_11 : decode cX9_readFor 11 = .ok (.iconst 1, 1) := by decide +kernel
theorem dX9_readFor_12 : decode cX9_readFor 12 = .ok (.aload_n 0, 1) := by decide +kernel
theorem dX9_readFor_13 : decode cX9_readFor 13 = .ok (.iload_n 1, 1) := by decide +kernel
theorem dX9_readFor_14 : decode cX9_readFor 14 = .ok (.iconst 0, 1) := by decide +kernel
theorem dX9_readFor_15 : decode cX9_readFor 15 = .ok (.invokevirtual 102, 3) := by decide +kernel
theorem dX9_readFor_18 : decode cX9_readFor 18 = .ok (.iastore, 1) := by decide +kernel
theorem dX9_readFor_19 : decode cX9_readFor 19 = .ok (.aload_n 0, 1) := by decide +kernel
theorem dX9_readFor_20 : decode cX9_readFor 20 = .ok (.getfield 33, 3) := by decide +kernel
theorem dX9_readFor_23 : decode cX9_readFor 23 = .ok (.iconst 2, 1) := by decide +kernel
theorem dX9_readFor_24 : decode cX9_readFor 24 = .ok (.aload_n 0, 1) := by decide +kernel
theorem dX9_readFor_25 : decode cX9_readFor 25 = .ok (.iload_n 1, 1) := by decide +kernel
theorem dX9_readFor_26 : decode cX9_readFor 26 = .ok (.iconst 1, 1) := by decide +kernel
theorem dX9_readFor_27 : decode cX9_readFor 27 = .ok (.invokevirtual 102, 3) := by decide +kernel
theorem dX9_readFor_30 : decode cX9_readFor 30 = .ok (.iastore, 1) := by decide +kernel
theorem dX9_readFor_31 : decode cX9_readFor 31 = .ok (.aload_n 0, 1) := by decide +kernel
theorem dX9_readFor_32 : decode cX9_readFor 32 = .ok (.getfield 33, 3) := by decide +kernel
theorem dX9_readFor_35 : decode cX9_readFor 35 = .ok (.iconst 3, 1) := by decide +kernel
theorem dX9_readFor_36 : decode cX9_readFor 36 = .ok (.iload_n 2, 1) := by decide +kernel
theorem dX9_readFor_37 : decode cX9_readFor 37 = .ok (.iastore, 1) := by decide +kernel
theorem dX9_readFor_38 : decode cX9_readFor 38 = .ok (.aload_n 0, 1) := by decide +kernel
theorem dX9_readFor_39 : decode cX9_readFor 39 = .ok (.getfield 33, 3) := by decide +kernel
theorem dX9_readFor_42 : decode cX9_readFor 42 = .ok (.iconst 4, 1) := by decide +kernel
theorem dX9_readFor_43 : decode cX9_readFor 43 = .ok (.aload_n 0, 1) := by decide +kernel
theorem dX9_readFor_44 : decode cX9_readFor 44 = .ok (.iload_n 1, 1) := by decide +kernel
theorem dX9_readFor_45 : decode cX9_readFor 45 = .ok (.iconst 5, 1) := by decide +kernel
theorem dX9_readFor_46 : decode cX9_readFor 46 = .ok (.invokevirtual 102, 3) := by decide +kernel
theorem dX9_readFor_49 : decode cX9_readFor 49 = .ok (.invokestatic 202, 3) := by decide +kernel
theorem dX9_readFor_52 : decode cX9_readFor 52 = .ok (.iastore, 1) := by decide +kernel
theorem dX9_readFor_53 : decode cX9_readFor 53 = .ok (.aload_n 0, 1) := by decide +kernel
theorem dX9_readFor_54 : decode cX9_readFor 54 = .ok (.getfield 33, 3) := by decide +kernel
theorem dX9_readFor_57 : decode cX9_readFor 57 = .ok (.iconst 5, 1) := by decide +kernel
theorem dX9_readFor_58 : decode cX9_readFor 58 = .ok (.aload_n 0, 1) := by decide +kernel
theorem dX9_readFor_59 : decode cX9_readFor 59 = .ok (.getfield 9, 3) := by decide +kernel
theorem dX9_readFor_62 : decode cX9_readFor 62 = .ok (.bipush 94, 2) := by decide +kernel
theorem dX9_readFor_64 : decode cX9_readFor 64 = .ok (.iaload, 1) := by decide +kernel
theorem dX9_readFor_65 : decode cX9_readFor 65 = .ok (.bipush 10, 2) := by decide +kernel
theorem dX9_readFor_67 : decode cX9_readFor 67 = .ok (.irem, 1) := by decide +kernel
theorem dX9_readFor_68 : decode cX9_readFor 68 = .ok (.iastore, 1) := by decide +kernel
theorem dX9_readFor_69 : decode cX9_readFor 69 = .ok (.aload_n 0, 1) := by decide +kernel
theorem dX9_readFor_70 : decode cX9_readFor 70 = .ok (.getfield 9, 3) := by decide +kernel
theorem dX9_readFor_73 : decode cX9_readFor 73 = .ok (.bipush 95, 2) := by decide +kernel
theorem dX9_readFor_75 : decode cX9_readFor 75 = .ok (.iaload, 1) := by decide +kernel
theorem dX9_readFor_76 : decode cX9_readFor 76 = .ok (.ifCond .ne 14, 3) := by decide +kernel
theorem dX9_readFor_79 : decode cX9_readFor 79 = .ok (.aload_n 0, 1) := by decide +kernel
theorem dX9_readFor_80 : decode cX9_readFor 80 = .ok (.iconst 3, 1) := by decide +kernel
theorem dX9_readFor_81 : decode cX9_readFor 81 = .ok (.putfield 196, 3) := by decide +kernel
theorem dX9_readFor_84 : decode cX9_readFor 84 = .ok (.aload_n 0, 1) := by decide +kernel
theorem dX9_readFor_85 : decode cX9_readFor 85 = .ok (.iconst 0, 1) := by decide +kernel
theorem dX9_readFor_86 : decode cX9_readFor 86 = .ok (.putfield 193, 3) := by decide +kernel
theorem dX9_readFor_89 : decode cX9_readFor 89 = .ok (.return_, 1) := by decide +kernel
theorem dX9_readFor_90 : decode cX9_readFor 90 = .ok (.aload_n 0, 1) := by decide +kernel
theorem dX9_readFor_91 : decode cX9_readFor 91 = .ok (.getfield 9, 3) := by decide +kernel
theorem dX9_readFor_94 : decode cX9_readFor 94 = .ok (.bipush 95, 2) := by decide +kernel
theorem dX9_readFor_96 : decode cX9_readFor 96 = .ok (.iaload, 1) := by decide +kernel
theorem dX9_readFor_97 : decode cX9_readFor 97 = .ok (.iconst 1, 1) := by decide +kernel
theorem dX9_readFor_98 : decode cX9_readFor 98 = .ok (.isub, 1) := by decide +kernel
theorem dX9_readFor_99 : decode cX9_readFor 99 = .ok (.istore_n 3, 1) := by decide +kernel
theorem dX9_readFor_100 : decode cX9_readFor 100 = .ok (.aload_n 0, 1) := by decide +kernel
theorem dX9_readFor_101 : decode cX9_readFor 101 = .ok (.aload_n 0, 1) := by decide +kernel
theorem dX9_readFor_102 : decode cX9_readFor 102 = .ok (.getfield 27, 3) := by decide +kernel
theorem dX9_readFor_105 : decode cX9_readFor 105 = .ok (.iload_n 3, 1) := by decide +kernel
theorem dX9_readFor_106 : decode cX9_readFor 106 = .ok (.iaload, 1) := by decide +kernel
theorem dX9_readFor_107 : decode cX9_readFor 107 = .ok (.putfield 160, 3) := by decide +kernel
theorem dX9_readFor_110 : decode cX9_readFor 110 = .ok (.iconst 0, 1) := by decide +kernel
theorem dX9_readFor_111 : decode cX9_readFor 111 = .ok (.istore 4, 2) := by decide +kernel
theorem dX9_readFor_113 : decode cX9_readFor 113 = .ok (.iload 4, 2) := by decide +kernel
theorem dX9_readFor_115 : decode cX9_readFor 115 = .ok (.aload_n 0, 1) := by decide +kernel
theorem dX9_readFor_116 : decode cX9_readFor 116 = .ok (.getfield 160, 3) := by decide +kernel
theorem dX9_readFor_119 : decode cX9_readFor 119 = .ok (.if_icmp .ge 28, 3) := by decide +kernel
theorem dX9_readFor_122 : decode cX9_readFor 122 = .ok (.aload_n 0, 1) := by decide +kernel
theorem dX9_readFor_123 : decode cX9_readFor 123 = .ok (.getfield 30, 3) := by decide +kernel
theorem dX9_readFor_126 : decode cX9_readFor 126 = .ok (.iload 4, 2) := by decide +kernel
theorem dX9_readFor_128 : decode cX9_readFor 128 = .ok (.aload_n 0, 1) := by decide +kernel
theorem dX9_readFor_129 : decode cX9_readFor 129 = .ok (.getfield 24, 3) := by decide +kernel
theorem dX9_readFor_132 : decode cX9_readFor 132 = .ok (.bipush 100, 2) := by decide +kernel
theorem dX9_readFor_134 : decode cX9_readFor 134 = .ok (.iload_n 3, 1) := by decide +kernel
theorem dX9_readFor_135 : decode cX9_readFor 135 = .ok (.imul, 1) := by decide +kernel
theorem dX9_readFor_136 : decode cX9_readFor 136 = .ok (.iload 4, 2) := by decide +kernel
theorem dX9_readFor_138 : decode cX9_readFor 138 = .ok (.iadd, 1) := by decide +kernel
theorem dX9_readFor_139 : decode cX9_readFor 139 = .ok (.iaload, 1) := by decide +kernel
theorem dX9_readFor_140 : decode cX9_readFor 140 = .ok (.iastore, 1) := by decide +kernel
theorem dX9_readFor_141 : decode cX9_readFor 141 = .ok (.iinc 4 1, 3) := by decide +kernel
theorem dX9_readFor_144 : decode cX9_readFor 144 = .ok (.goto (-31), 3) := by decide +kernel
theorem dX9_readFor_147 : decode cX9_readFor 147 = .ok (.aload_n 0, 1) := by decide +kernel
theorem dX9_readFor_148 : decode cX9_readFor 148 = .ok (.invokevirtual 205, 3) := by decide +kernel
theorem dX9_readFor_151 : decode cX9_readFor 151 = .ok (.pop, 1) := by decide +kernel
theorem dX9_readFor_152 : decode cX9_readFor 152 = .ok (.return_, 1) := by decide +kernel
theorem dX9_city_0 : decode cX9_city 0 = .ok (.aload_n 0, 1) := by decide +kernel
theorem dX9_city_1 : decode cX9_city 1 = .ok (.getfield 208, 3) := by decide +kernel
theorem dX9_city_4 : decode cX9_city 4 = .ok (.bipush 6, 2) := by decide +kernel
theorem dX9_city_6 : decode cX9_city 6 = .ok (.if_icmp .ne 6, 3) := by decide +kernel
theorem dX9_city_9 : decode cX9_city 9 = .ok (.bipush (-4), 2) := by decide +kernel
theorem dX9_city_11 : decode cX9_city 11 = .ok (.ireturn, 1) := by decide +kernel
theorem dX9_city_12 : decode cX9_city 12 = .ok (.aload_n 0, 1) := by decide +kernel
theorem dX9_city_13 : decode cX9_city 13 = .ok (.aload_n 0, 1) := by decide +kernel
theorem dX9_city_14 : decode cX9_city 14 = .ok (.getfield 150, 3) := by decide +kernel
theorem dX9_city_17 : decode cX9_city 17 = .ok (.putfield 160, 3) := by decide +kernel
theorem dX9_city_20 : decode cX9_city 20 = .ok (.iconst 0, 1) := by decide +kernel
theorem dX9_city_21 : decode cX9_city 21 = .ok (.istore_n 1, 1) := by decide +kernel
theorem dX9_city_22 : decode cX9_city 22 = .ok (.iload_n 1, 1) := by decide +kernel
theorem dX9_city_23 : decode cX9_city 23 = .ok (.aload_n 0, 1) := by decide +kernel
theorem dX9_city_24 : decode cX9_city 24 = .ok (.getfield 160, 3) := by decide +kernel
theorem dX9_city_27 : decode cX9_city 27 = .ok (.if_icmp .ge 21, 3) := by decide +kernel
theorem dX9_city_30 : decode cX9_city 30 = .ok (.aload_n 0, 1) := by decide +kernel
theorem dX9_city_31 : decode cX9_city 31 = .ok (.getfield 30, 3) := by decide +kernel
theorem dX9_city_34 : decode cX9_city 34 = .ok (.iload_n 1, 1) := by decide +kernel
theorem dX9_city_35 : decode cX9_city 35 = .ok (.aload_n 0, 1) := by decide +kernel
theorem dX9_city_36 : decode cX9_city 36 = .ok (.getfield 21, 3) := by decide +kernel
theorem dX9_city_39 : decode cX9_city 39 = .ok (.iload_n 1, 1) := by decide +kernel
theorem dX9_city_40 : decode cX9_city 40 = .ok (.iaload, 1) := by decide +kernel
theorem dX9_city_41 : decode cX9_city 41 = .ok (.iastore, 1) := by decide +kernel
theorem dX9_city_42 : decode cX9_city 42 = .ok (.iinc 1 1, 3) := by decide +kernel
theorem dX9_city_45 : decode cX9_city 45 = .ok (.goto (-23), 3) := by decide +kernel
theorem dX9_city_48 : decode cX9_city 48 = .ok (.aload_n 0, 1) := by decide +kernel
theorem dX9_city_49 : decode cX9_city 49 = .ok (.iconst 0, 1) := by decide +kernel
theorem dX9_city_50 : decode cX9_city 50 = .ok (.putfield 150, 3) := by decide +kernel
theorem dX9_city_53 : decode cX9_city 53 = .ok (.aload_n 0, 1) := by decide +kernel
theorem dX9_city_54 : decode cX9_city 54 = .ok (.invokevirtual 205, 3) := by decide +kernel
theorem dX9_city_57 : decode cX9_city 57 = .ok (.ifCond .ne 11, 3) := by decide +kernel
theorem dX9_city_60 : decode cX9_city 60 = .ok (.bipush (-10), 2) := by decide +kernel
theorem dX9_city_62 : decode cX9_city 62 = .ok (.aload_n 0, 1) := by decide +kernel
theorem dX9_city_63 : decode cX9_city 63 = .ok (.getfield 157, 3) := by decide +kernel
theorem dX9_city_66 : decode cX9_city 66 = .ok (.isub, 1) := by decide +kernel
theorem dX9_city_67 : decode cX9_city 67 = .ok (.ireturn, 1) := by decide +kernel
theorem dX9_city_68 : decode cX9_city 68 = .ok (.iconst 0, 1) := by decide +kernel
theorem dX9_city_69 : decode cX9_city 69 = .ok (.istore_n 1, 1) := by decide +kernel
theorem dX9_city_70 : decode cX9_city 70 = .ok (.iload_n 1, 1) := by decide +kernel
theorem dX9_city_71 : decode cX9_city 71 = .ok (.aload_n 0, 1) := by decide +kernel
theorem dX9_city_72 : decode cX9_city 72 = .ok (.getfield 160, 3) := by decide +kernel
theorem dX9_city_75 : decode cX9_city 75 = .ok (.if_icmp .ge 29, 3) := by decide +kernel
theorem dX9_city_78 : decode cX9_city 78 = .ok (.aload_n 0, 1) := by decide +kernel
theorem dX9_city_79 : decode cX9_city 79 = .ok (.getfield 24, 3) := by decide +kernel
theorem dX9_city_82 : decode cX9_city 82 = .ok (.bipush 100, 2) := by decide +kernel
theorem dX9_city_84 : decode cX9_city 84 = .ok (.aload_n 0, 1) := by decide +kernel
theorem dX9_city_85 : decode cX9_city 85 = .ok (.getfield 208, 3) := by decide +kernel
theorem dX9_city_88 : decode cX9_city 88 = .ok (.imul, 1) := by decide +kernel
theorem dX9_city_89 : decode cX9_city 89 = .ok (.iload_n 1, 1) := by decide +kernel
theorem dX9_city_90 : decode cX9_city 90 = .ok (.iadd, 1) := by decide +kernel
theorem dX9_city_91 : decode cX9_city 91 = .ok (.aload_n 0, 1) := by decide +kernel
theorem dX9_city_92 : decode cX9_city 92 = .ok (.getfield 30, 3) := by decide +kernel
theorem dX9_city_95 : decode cX9_city 95 = .ok (.iload_n 1, 1) := by decide +kernel
theorem dX9_city_96 : decode cX9_city 96 = .ok (.iaload, 1) := by decide +kernel
theorem dX9_city_97 : decode cX9_city 97 = .ok (.iastore, 1) := by decide +kernel
theorem dX9_city_98 : decode cX9_city 98 = .ok (.iinc 1 1, 3) := by decide +kernel
theorem dX9_city_101 : decode cX9_city 101 = .ok (.goto (-31), 3) := by decide +kernel
theorem dX9_city_104 : decode cX9_city 104 = .ok (.aload_n 0, 1) := by decide +kernel
theorem dX9_city_105 : decode cX9_city 105 = .ok (.getfield 27, 3) := by decide +kernel
theorem dX9_city_108 : decode cX9_city 108 = .ok (.aload_n 0, 1) := by decide +kernel
theorem dX9_city_109 : decode cX9_city 109 = .ok (.getfield 208, 3) := by decide +kernel
theorem dX9_city_112 : decode cX9_city 112 = .ok (.aload_n 0, 1) := by decide +kernel
theorem dX9_city_113 : decode cX9_city 113 = .ok (.getfield 160, 3) := by decide +kernel
theorem dX9_city_116 : decode cX9_city 116 = .ok (.iastore, 1) := by decide +kernel
theorem dX9_city_117 : decode cX9_city 117 = .ok (.aload_n 0, 1) := by decide +kernel
theorem dX9_city_118 : decode cX9_city 118 = .ok (.dup, 1) := by decide +kernel
theorem dX9_city_119 : decode cX9_city 119 = .ok (.getfield 208, 3) := by decide +kernel
theorem dX9_city_122 : decode cX9_city 122 = .ok (.iconst 1, 1) := by decide +kernel
theorem dX9_city_123 : decode cX9_city 123 = .ok (.iadd, 1) := by decide +kernel
theorem dX9_city_124 : decode cX9_city 124 = .ok (.putfield 208, 3) := by decide +kernel
theorem dX9_city_127 : decode cX9_city 127 = .ok (.aload_n 0, 1) := by decide +kernel
theorem dX9_city_128 : decode cX9_city 128 = .ok (.getfield 9, 3) := by decide +kernel
theorem dX9_city_131 : decode cX9_city 131 = .ok (.bipush 95, 2) := by decide +kernel
theorem dX9_city_133 : decode cX9_city 133 = .ok (.aload_n 0, 1) := by decide +kernel
theorem dX9_city_134 : decode cX9_city 134 = .ok (.getfield 208, 3) := by decide +kernel
theorem dX9_city_137 : decode cX9_city 137 = .ok (.iastore, 1) := by decide +kernel
theorem dX9_city_138 : decode cX9_city 138 = .ok (.aload_n 0, 1) := by decide +kernel
theorem dX9_city_139 : decode cX9_city 139 = .ok (.getfield 208, 3) := by decide +kernel
theorem dX9_city_142 : decode cX9_city 142 = .ok (.iconst 1, 1) := by decide +kernel
theorem dX9_city_143 : decode cX9_city 143 = .ok (.isub, 1) := by decide +kernel
theorem dX9_city_144 : decode cX9_city 144 = .ok (.ireturn, 1) := by decide +kernel
theorem dX9_leave_0 : decode cX9_leave 0 = .ok (.aload_n 0, 1) := by decide +kernel
theorem dX9_leave_1 : decode cX9_leave 1 = .ok (.iload_n 1, 1) := by decide +kernel
theorem dX9_leave_2 : decode cX9_leave 2 = .ok (.iload_n 2, 1) := by decide +kernel
theorem dX9_leave_3 : decode cX9_leave 3 = .ok (.invokevirtual 211, 3) := by decide +kernel
theorem dX9_leave_6 : decode cX9_leave 6 = .ok (.aload_n 0, 1) := by decide +kernel
theorem dX9_leave_7 : decode cX9_leave 7 = .ok (.iload_n 1, 1) := by decide +kernel
theorem dX9_leave_8 : decode cX9_leave 8 = .ok (.iconst 5, 1) := by decide +kernel
theorem dX9_leave_9 : decode cX9_leave 9 = .ok (.invokevirtual 102, 3) := by decide +kernel
theorem dX9_leave_12 : decode cX9_leave 12 = .ok (.invokestatic 202, 3) := by decide +kernel
theorem dX9_leave_15 : decode cX9_leave 15 = .ok (.istore_n 3, 1) := by decide +kernel
theorem dX9_leave_16 : decode cX9_leave 16 = .ok (.aload_n 0, 1) := by decide +kernel
theorem dX9_leave_17 : decode cX9_leave 17 = .ok (.getfield 196, 3) := by decide +kernel
theorem dX9_leave_20 : decode cX9_leave 20 = .ok (.aload_n 0, 1) := by decide +kernel
theorem dX9_leave_21 : decode cX9_leave 21 = .ok (.iload_n 1, 1) := by decide +kernel
theorem dX9_leave_22 : decode cX9_leave 22 = .ok (.iconst 1, 1) := by decide +kernel
theorem dX9_leave_23 : decode cX9_leave 23 = .ok (.invokevirtual 102, 3) := by decide +kernel
theorem dX9_leave_26 : decode cX9_leave 26 = .ok (.iadd, 1) := by decide +kernel
theorem dX9_leave_27 : decode cX9_leave 27 = .ok (.iload_n 2, 1) := by decide +kernel
theorem dX9_leave_28 : decode cX9_leave 28 = .ok (.iconst 2, 1) := by decide +kernel
theorem dX9_leave_29 : decode cX9_leave 29 = .ok (.irem, 1) := by decide +kernel
theorem dX9_leave_30 : decode cX9_leave 30 = .ok (.iconst 1, 1) := by decide +kernel
theorem dX9_leave_31 : decode cX9_leave 31 = .ok (.if_icmp .ne 7, 3) := by decide +kernel
theorem dX9_leave_34 : decode cX9_leave 34 = .ok (.iconst 5, 1) := by decide +kernel
theorem dX9_leave_35 : decode cX9_leave 35 = .ok (.goto 4, 3) := by decide +kernel
theorem dX9_leave_38 : decode cX9_leave 38 = .ok (.iconst 0, 1) := by decide +kernel
theorem dX9_leave_39 : decode cX9_leave 39 = .ok (.isub, 1) := by decide +kernel
theorem dX9_leave_40 : decode cX9_leave 40 = .ok (.istore 4, 2) := by decide +kernel
theorem dX9_leave_42 : decode cX9_leave 42 = .ok (.aload_n 0, 1) := by decide +kernel
theorem dX9_leave_43 : decode cX9_leave 43 = .ok (.iload_n 1, 1) := by decide +kernel
theorem dX9_leave_44 : decode cX9_leave 44 = .ok (.iconst 0, 1) := by decide +kernel
theorem dX9_leave_45 : decode cX9_leave 45 = .ok (.invokevirtual 102, 3) := by decide +kernel
theorem dX9_leave_48 : decode cX9_leave 48 = .ok (.tableswitch 103 1 6 #[40, 43, 50, 59, 71, 80], 40) := by decide +kernel
theorem dX9_leave_88 : decode cX9_leave 88 = .ok (.iload 4, 2) := by decide +kernel
theorem dX9_leave_90 : decode cX9_leave 90 = .ok (.ireturn, 1) := by decide +kernel
theorem dX9_leave_91 : decode cX9_leave 91 = .ok (.aload_n 0, 1) := by decide +kernel
theorem dX9_leave_92 : decode cX9_leave 92 = .ok (.getfield 196, 3) := by decide +kernel
theorem dX9_leave_95 : decode cX9_leave 95 = .ok (.iconst 2, 1) := by decide +kernel
theorem dX9_leave_96 : decode cX9_leave 96 = .ok (.idiv, 1) := by decide +kernel
theorem dX9_leave_97 : decode cX9_leave 97 = .ok (.ireturn, 1) := by decide +kernel
theorem dX9_leave_98 : decode cX9_leave 98 = .ok (.aload_n 0, 1) := by decide +kernel
theorem dX9_leave_99 : decode cX9_leave 99 = .ok (.getfield 196, 3) := by decide +kernel
theorem dX9_leave_102 : decode cX9_leave 102 = .ok (.iconst 2, 1) := by decide +kernel
theorem dX9_leave_103 : decode cX9_leave 103 = .ok (.iload_n 3, 1) := by decide +kernel
theorem dX9_leave_104 : decode cX9_leave 104 = .ok (.imul, 1) := by decide +kernel
theorem dX9_leave_105 : decode cX9_leave 105 = .ok (.isub, 1) := by decide +kernel
theorem dX9_leave_106 : decode cX9_leave 106 = .ok (.ireturn, 1) := by decide +kernel
theorem dX9_leave_107 : decode cX9_leave 107 = .ok (.iload_n 3, 1) := by decide +kernel
theorem dX9_leave_108 : decode cX9_leave 108 = .ok (.iconst 2, 1) := by decide +kernel
theorem dX9_leave_109 : decode cX9_leave 109 = .ok (.if_icmp .le 7, 3) := by decide +kernel
theorem dX9_leave_112 : decode cX9_leave 112 = .ok (.iconst 0, 1) := by decide +kernel
theorem dX9_leave_113 : decode cX9_leave 113 = .ok (.goto 5, 3) := by decide +kernel
theorem dX9_leave_116 : decode cX9_leave 116 = .ok (.iload 4, 2) := by decide +kernel
theorem dX9_leave_118 : decode cX9_leave 118 = .ok (.ireturn, 1) := by decide +kernel
theorem dX9_leave_119 : decode cX9_leave 119 = .ok (.aload_n 0, 1) := by decide +kernel
theorem dX9_leave_120 : decode cX9_leave 120 = .ok (.getfield 196, 3) := by decide +kernel
theorem dX9_leave_123 : decode cX9_leave 123 = .ok (.iconst 2, 1) := by decide +kernel
theorem dX9_leave_124 : decode cX9_leave 124 = .ok (.idiv, 1) := by decide +kernel
theorem dX9_leave_125 : decode cX9_leave 125 = .ok (.iconst 2, 1) := by decide +kernel
theorem dX9_leave_126 : decode cX9_leave 126 = .ok (.iadd, 1) := by decide +kernel
theorem dX9_leave_127 : decode cX9_leave 127 = .ok (.ireturn, 1) := by decide +kernel
theorem dX9_leave_128 : decode cX9_leave 128 = .ok (.aload_n 0, 1) := by decide +kernel
theorem dX9_leave_129 : decode cX9_leave 129 = .ok (.getfield 196, 3) := by decide +kernel
theorem dX9_leave_132 : decode cX9_leave 132 = .ok (.iconst 2, 1) := by decide +kernel
theorem dX9_leave_133 : decode cX9_leave 133 = .ok (.iload_n 3, 1) := by decide +kernel
theorem dX9_leave_134 : decode cX9_leave 134 = .ok (.imul, 1) := by decide +kernel
theorem dX9_leave_135 : decode cX9_leave 135 = .ok (.isub, 1) := by decide +kernel
theorem dX9_leave_136 : decode cX9_leave 136 = .ok (.aload_n 0, 1) := by decide +kernel
theorem dX9_leave_137 : decode cX9_leave 137 = .ok (.iload_n 1, 1) := by decide +kernel
theorem dX9_leave_138 : decode cX9_leave 138 = .ok (.bipush 6, 2) := by decide +kernel
theorem dX9_leave_140 : decode cX9_leave 140 = .ok (.iload_n 2, 1) := by decide +kernel
theorem dX9_leave_141 : decode cX9_leave 141 = .ok (.iconst 4, 1) := by decide +kernel
theorem dX9_leave_142 : decode cX9_leave 142 = .ok (.irem, 1) := by decide +kernel
theorem dX9_leave_143 : decode cX9_leave 143 = .ok (.iadd, 1) := by decide +kernel
theorem dX9_leave_144 : decode cX9_leave 144 = .ok (.invokevirtual 102, 3) := by decide +kernel
theorem dX9_leave_147 : decode cX9_leave 147 = .ok (.iadd, 1) := by decide +kernel
theorem dX9_leave_148 : decode cX9_leave 148 = .ok (.iconst 4, 1) := by decide +kernel
theorem dX9_leave_149 : decode cX9_leave 149 = .ok (.isub, 1) := by decide +kernel
theorem dX9_leave_150 : decode cX9_leave 150 = .ok (.ireturn, 1) := by decide +kernel
theorem dX9_leave_151 : decode cX9_leave 151 = .ok (.aload_n 0, 1) := by decide +kernel
theorem dX9_leave_152 : decode cX9_leave 152 = .ok (.getfield 196, 3) := by decide +kernel
theorem dX9_leave_155 : decode cX9_leave 155 = .ok (.ireturn, 1) := by decide +kernel
theorem dX9_mayAnywhere_0 : decode cX9_mayAnywhere 0 = .ok (.iconst 0, 1) := by decide +kernel
theorem dX9_mayAnywhere_1 : decode cX9_mayAnywhere 1 = .ok (.istore_n 2, 1) := by decide +kernel
theorem dX9_mayAnywhere_2 : decode cX9_mayAnywhere 2 = .ok (.iconst 0, 1) := by decide +kernel
theorem dX9_mayAnywhere_3 : decode cX9_mayAnywhere 3 = .ok (.istore_n 3, 1) := by decide +kernel
theorem dX9_mayAnywhere_4 : decode cX9_mayAnywhere 4 = .ok (.iload_n 3, 1) := by decide +kernel
theorem dX9_mayAnywhere_5 : decode cX9_mayAnywhere 5 = .ok (.aload_n 0, 1) := by decide +kernel
theorem dX9_mayAnywhere_6 : decode cX9_mayAnywhere 6 = .ok (.getfield 9, 3) := by decide +kernel
theorem dX9_mayAnywhere_9 : decode cX9_mayAnywhere 9 = .ok (.bipush 93, 2) := by decide +kernel
theorem dX9_mayAnywhere_11 : decode cX9_mayAnywhere 11 = .ok (.iaload, 1) := by decide +kernel
theorem dX9_mayAnywhere_12 : decode cX9_mayAnywhere 12 = .ok (.if_icmp .ge 47, 3) := by decide +kernel
theorem dX9_mayAnywhere_15 : decode cX9_mayAnywhere 15 = .ok (.iload_n 2, 1) := by decide +kernel
theorem dX9_mayAnywhere_16 : decode cX9_mayAnywhere 16 = .ok (.aload_n 0, 1) := by decide +kernel
theorem dX9_mayAnywhere_17 : decode cX9_mayAnywhere 17 = .ok (.iload_n 3, 1) := by decide +kernel
theorem dX9_mayAnywhere_18 : decode cX9_mayAnywhere 18 = .ok (.invokevirtual 214, 3) := by decide +kernel
theorem dX9_mayAnywhere_21 : decode cX9_mayAnywhere 21 = .ok (.ifCond .eq 13, 3) := by decide +kernel
theorem dX9_mayAnywhere_24 : decode cX9_mayAnywhere 24 = .ok (.aload_n 0, 1) := by decide +kernel
theorem dX9_mayAnywhere_25 : decode cX9_mayAnywhere 25 = .ok (.iload_n 1, 1) := by decide +kernel
theorem dX9_mayAnywhere_26 : decode cX9_mayAnywhere 26 = .ok (.iconst 0, 1) := by decide +kernel
theorem dX9_mayAnywhere_27 : decode cX9_mayAnywhere 27 = .ok (.invokevirtual 102, 3) := by decide +kernel
theorem dX9_mayAnywhere_30 : decode cX9_mayAnywhere 30 = .ok (.iconst 5, 1) := by decide +kernel
theorem dX9_mayAnywhere_31 : decode cX9_mayAnywhere 31 = .ok (.if_icmp .ne 19, 3) := by decide +kernel
theorem dX9_mayAnywhere_34 : decode cX9_mayAnywhere 34 = .ok (.aload_n 0, 1) := by decide +kernel
theorem dX9_mayAnywhere_35 : decode cX9_mayAnywhere 35 = .ok (.iload_n 1, 1) := by decide +kernel
theorem dX9_mayAnywhere_36 : decode cX9_mayAnywhere 36 = .ok (.iload_n 3, 1) := by decide +kernel
theorem dX9_mayAnywhere_37 : decode cX9_mayAnywhere 37 = .ok (.invokevirtual 133, 3) := by decide +kernel
theorem dX9_mayAnywhere_40 : decode cX9_mayAnywhere 40 = .ok (.iconst 1, 1) := by decide +kernel
theorem dX9_mayAnywhere_41 : decode cX9_mayAnywhere 41 = .ok (.if_icmp .lt 9, 3) := by decide +kernel
theorem dX9_mayAnywhere_44 : decode cX9_mayAnywhere 44 = .ok (.iconst 1, 1) := by decide +kernel
theorem dX9_mayAnywhere_45 : decode cX9_mayAnywhere 45 = .ok (.iload_n 3, 1) := by decide +kernel
theorem dX9_mayAnywhere_46 : decode cX9_mayAnywhere 46 = .ok (.ishl, 1) := by decide +kernel
theorem dX9_mayAnywhere_47 : decode cX9_mayAnywhere 47 = .ok (.goto 4, 3) := by decide +kernel
theorem dX9_mayAnywhere_50 : decode cX9_mayAnywhere 50 = .ok (.iconst 0, 1) := by decide +kernel
theorem dX9_mayAnywhere_51 : decode cX9_mayAnywhere 51 = .ok (.ior, 1) := by decide +kernel
theorem dX9_mayAnywhere_52 : decode cX9_mayAnywhere 52 = .ok (.istore_n 2, 1) := by decide +kernel
theorem dX9_mayAnywhere_53 : decode cX9_mayAnywhere 53 = .ok (.iinc 3 1, 3) := by decide +kernel
theorem dX9_mayAnywhere_56 : decode cX9_mayAnywhere 56 = .ok (.goto (-52), 3) := by decide +kernel
theorem dX9_mayAnywhere_59 : decode cX9_mayAnywhere 59 = .ok (.iload_n 2, 1) := by decide +kernel
theorem dX9_mayAnywhere_60 : decode cX9_mayAnywhere 60 = .ok (.ireturn, 1) := by decide +kernel
theorem dX9_may_0 : decode cX9_may 0 = .ok (.iconst 0, 1) := by decide +kernel
theorem dX9_may_1 : decode cX9_may 1 = .ok (.istore_n 2, 1) := by decide +kernel
theorem dX9_may_2 : decode cX9_may 2 = .ok (.iconst 0, 1) := by decide +kernel
theorem dX9_may_3 : decode cX9_may 3 = .ok (.istore_n 3, 1) := by decide +kernel
theorem dX9_may_4 : decode cX9_may 4 = .ok (.iload_n 3, 1) := by decide +kernel
theorem dX9_may_5 : decode cX9_may 5 = .ok (.aload_n 0, 1) := by decide +kernel
theorem dX9_may_6 : decode cX9_may 6 = .ok (.getfield 9, 3) := by decide +kernel
theorem dX9_may_9 : decode cX9_may 9 = .ok (.bipush 93, 2) := by decide +kernel
theorem dX9_may_11 : decode cX9_may 11 = .ok (.iaload, 1) := by decide +kernel
theorem dX9_may_12 : decode cX9_may 12 = .ok (.if_icmp .ge 49, 3) := by decide +kernel
theorem dX9_may_15 : decode cX9_may 15 = .ok (.iload_n 2, 1) := by decide +kernel
theorem dX9_may_16 : decode cX9_may 16 = .ok (.aload_n 0, 1) := by decide +kernel
theorem dX9_may_17 : decode cX9_may 17 = .ok (.iload_n 3, 1) := by decide +kernel
theorem dX9_may_18 : decode cX9_may 18 = .ok (.iconst 0, 1) := by decide +kernel
theorem dX9_may_19 : decode cX9_may 19 = .ok (.invokevirtual 217, 3) := by decide +kernel
theorem dX9_may_22 : decode cX9_may 22 = .ok (.aload_n 0, 1) := by decide +kernel
theorem dX9_may_23 : decode cX9_may 23 = .ok (.iload_n 1, 1) := by decide +kernel
theorem dX9_may_24 : decode cX9_may 24 = .ok (.iconst 2, 1) := by decide +kernel
theorem dX9_may_25 : decode cX9_may 25 = .ok (.invokevirtual 102, 3) := by decide +kernel
theorem dX9_may_28 : decode cX9_may 28 = .ok (.if_icmp .eq 18, 3) := by decide +kernel
theorem dX9_may_31 : decode cX9_may 31 = .ok (.aload_n 0, 1) := by decide +kernel
theorem dX9_may_32 : decode cX9_may 32 = .ok (.iload_n 3, 1) := by decide +kernel
theorem dX9_may_33 : decode cX9_may 33 = .ok (.iconst 1, 1) := by decide +kernel
theorem dX9_may_34 : decode cX9_may 34 = .ok (.invokevirtual 217, 3) := by decide +kernel
theorem dX9_may_37 : decode cX9_may 37 = .ok (.aload_n 0, 1) := by decide +kernel
theorem dX9_may_38 : decode cX9_may 38 = .ok (.iload_n 1, 1) := by decide +kernel
theorem dX9_may_39 : decode cX9_may 39 = .ok (.iconst 2, 1) := by decide +kernel
theorem dX9_may_40 : decode cX9_may 40 = .ok (.invokevirtual 102, 3) := by decide +kernel
theorem dX9_may_43 : decode cX9_may 43 = .ok (.if_icmp .ne 9, 3) := by decide +kernel
theorem dX9_may_46 : decode cX9_may 46 = .ok (.iconst 1, 1) := by decide +kernel
theorem dX9_may_47 : decode cX9_may 47 = .ok (.iload_n 3, 1) := by decide +kernel
theorem dX9_may_48 : decode cX9_may 48 = .ok (.ishl, 1) := by decide +kernel
theorem dX9_may_49 : decode cX9_may 49 = .ok (.goto 4, 3) := by decide +kernel
theorem dX9_may_52 : decode cX9_may 52 = .ok (.iconst 0, 1) := by decide +kernel
theorem dX9_may_53 : decode cX9_may 53 = .ok (.ior, 1) := by decide +kernel
theorem dX9_may_54 : decode cX9_may 54 = .ok (.istore_n 2, 1) := by decide +kernel
theorem dX9_may_55 : decode cX9_may 55 = .ok (.iinc 3 1, 3) := by decide +kernel
theorem dX9_may_58 : decode cX9_may 58 = .ok (.goto (-54), 3) := by decide +kernel
theorem dX9_may_61 : decode cX9_may 61 = .ok (.iload_n 2, 1) := by decide +kernel
theorem dX9_may_62 : decode cX9_may 62 = .ok (.aload_n 0, 1) := by decide +kernel
theorem dX9_may_63 : decode cX9_may 63 = .ok (.iload_n 1, 1) := by decide +kernel
theorem dX9_may_64 : decode cX9_may 64 = .ok (.invokevirtual 220, 3) := by decide +kernel
theorem dX9_may_67 : decode cX9_may 67 = .ok (.iand, 1) := by decide +kernel
theorem dX9_may_68 : decode cX9_may 68 = .ok (.ireturn, 1) := by decide +kernel
theorem dX9_halfBy_0 : decode cX9_halfBy 0 = .ok (.aload_n 0, 1) := by decide +kernel
theorem dX9_halfBy_1 : decode cX9_halfBy 1 = .ok (.iload_n 2, 1) := by decide +kernel
theorem dX9_halfBy_2 : decode cX9_halfBy 2 = .ok (.invokevirtual 136, 3) := by decide +kernel
theorem dX9_halfBy_5 : decode cX9_halfBy 5 = .ok (.istore_n 3, 1) := by decide +kernel
theorem dX9_halfBy_6 : decode cX9_halfBy 6 = .ok (.iload_n 3, 1) := by decide +kernel
theorem dX9_halfBy_7 : decode cX9_halfBy 7 = .ok (.iconst (-1), 1) := by decide +kernel
theorem dX9_halfBy_8 : decode cX9_halfBy 8 = .ok (.if_icmp .eq 22, 3) := by decide +kernel
theorem dX9_halfBy_11 : decode cX9_halfBy 11 = .ok (.iload_n 1, 1) := by decide +kernel
theorem dX9_halfBy_12 : decode cX9_halfBy 12 = .ok (.iload_n 3, 1) := by decide +kernel
theorem dX9_halfBy_13 : decode cX9_halfBy 13 = .ok (.ishr, 1) := by decide +kernel
theorem dX9_halfBy_14 : decode cX9_halfBy 14 = .ok (.iconst 1, 1) := by decide +kernel
theorem dX9_halfBy_15 : decode cX9_halfBy 15 = .ok (.iand, 1) := by decide +kernel
theorem dX9_halfBy_16 : decode cX9_halfBy 16 = .ok (.iconst 1, 1) := by decide +kernel
theorem dX9_halfBy_17 : decode cX9_halfBy 17 = .ok (.if_icmp .ne 13, 3) := by decide +kernel
theorem dX9_halfBy_20 : decode cX9_halfBy 20 = .ok (.iload_n 1, 1) := by decide +kernel
theorem dX9_halfBy_21 : decode cX9_halfBy 21 = .ok (.iconst 1, 1) := by decide +kernel
theorem dX9_halfBy_22 : decode cX9_halfBy 22 = .ok (.iload_n 3, 1) := by decide +kernel
theorem dX9_halfBy_23 : decode cX9_halfBy 23 = .ok (.ishl, 1) := by decide +kernel
theorem dX9_halfBy_24 : decode cX9_halfBy 24 = .ok (.iconst (-1), 1) := by decide +kernel
theorem dX9_halfBy_25 : decode cX9_halfBy 25 = .ok (.ixor, 1) := by decide +kernel
theorem dX9_halfBy_26 : decode cX9_halfBy 26 = .ok (.iand, 1) := by decide +kernel
theorem dX9_halfBy_27 : decode cX9_halfBy 27 = .ok (.goto 8, 3) := by decide +kernel
theorem dX9_halfBy_30 : decode cX9_halfBy 30 = .ok (.iload_n 1, 1) := by decide +kernel
theorem dX9_halfBy_31 : decode cX9_halfBy 31 = .ok (.iconst 1, 1) := by decide +kernel
theorem dX9_halfBy_32 : decode cX9_halfBy 32 = .ok (.iload_n 2, 1) := by decide +kernel
theorem dX9_halfBy_33 : decode cX9_halfBy 33 = .ok (.ishl, 1) := by decide +kernel
theorem dX9_halfBy_34 : decode cX9_halfBy 34 = .ok (.ixor, 1) := by decide +kernel
theorem dX9_halfBy_35 : decode cX9_halfBy 35 = .ok (.ireturn, 1) := by decide +kernel
theorem dX9_crosses_0 : decode cX9_crosses 0 = .ok (.aload_n 0, 1) := by decide +kernel
theorem dX9_crosses_1 : decode cX9_crosses 1 = .ok (.iload_n 1, 1) := by decide +kernel
theorem dX9_crosses_2 : decode cX9_crosses 2 = .ok (.iconst 2, 1) := by decide +kernel
theorem dX9_crosses_3 : decode cX9_crosses 3 = .ok (.aload_n 0, 1) := by decide +kernel
theorem dX9_crosses_4 : decode cX9_crosses 4 = .ok (.iload_n 2, 1) := by decide +kernel
theorem dX9_crosses_5 : decode cX9_crosses 5 = .ok (.iconst 0, 1) := by decide +kernel
theorem dX9_crosses_6 : decode cX9_crosses 6 = .ok (.invokevirtual 217, 3) := by decide +kernel
theorem dX9_crosses_9 : decode cX9_crosses 9 = .ok (.aload_n 0, 1) := by decide +kernel
theorem dX9_crosses_10 : decode cX9_crosses 10 = .ok (.iload_n 2, 1) := by decide +kernel
theorem dX9_crosses_11 : decode cX9_crosses 11 = .ok (.iconst 1, 1) := by decide +kernel
theorem dX9_crosses_12 : decode cX9_crosses 12 = .ok (.invokevirtual 217, 3) := by decide +kernel
theorem dX9_crosses_15 : decode cX9_crosses 15 = .ok (.iadd, 1) := by decide +kernel
theorem dX9_crosses_16 : decode cX9_crosses 16 = .ok (.aload_n 0, 1) := by decide +kernel
theorem dX9_crosses_17 : decode cX9_crosses 17 = .ok (.iload_n 1, 1) := by decide +kernel
theorem dX9_crosses_18 : decode cX9_crosses 18 = .ok (.iconst 2, 1) := by decide +kernel
theorem dX9_crosses_19 : decode cX9_crosses 19 = .ok (.invokevirtual 102, 3) := by decide +kernel
theorem dX9_crosses_22 : decode cX9_crosses 22 = .ok (.isub, 1) := by decide +kernel
theorem dX9_crosses_23 : decode cX9_crosses 23 = .ok (.invokevirtual 110, 3) := by decide +kernel
theorem dX9_crosses_26 : decode cX9_crosses 26 = .ok (.pop, 1) := by decide +kernel
theorem dX9_crosses_27 : decode cX9_crosses 27 = .ok (.aload_n 0, 1) := by decide +kernel
theorem dX9_crosses_28 : decode cX9_crosses 28 = .ok (.iload_n 1, 1) := by decide +kernel
theorem dX9_crosses_29 : decode cX9_crosses 29 = .ok (.iconst 5, 1) := by decide +kernel
theorem dX9_crosses_30 : decode cX9_crosses 30 = .ok (.aload_n 0, 1) := by decide +kernel
theorem dX9_crosses_31 : decode cX9_crosses 31 = .ok (.aload_n 0, 1) := by decide +kernel
theorem dX9_crosses_32 : decode cX9_crosses 32 = .ok (.iload_n 1, 1) := by decide +kernel
theorem dX9_crosses_33 : decode cX9_crosses 33 = .ok (.iconst 5, 1) := by decide +kernel
theorem dX9_crosses_34 : decode cX9_crosses 34 = .ok (.invokevirtual 102, 3) := by decide +kernel
theorem dX9_crosses_37 : decode cX9_crosses 37 = .ok (.iload_n 2, 1) := by decide +kernel
theorem dX9_crosses_38 : decode cX9_crosses 38 = .ok (.invokevirtual 223, 3) := by decide +kernel
theorem dX9_crosses_41 : decode cX9_crosses 41 = .ok (.invokevirtual 110, 3) := by decide +kernel
theorem dX9_crosses_44 : decode cX9_crosses 44 = .ok (.pop, 1) := by decide +kernel
theorem dX9_crosses_45 : decode cX9_crosses 45 = .ok (.aload_n 0, 1) := by decide +kernel
theorem dX9_crosses_46 : decode cX9_crosses 46 = .ok (.iload_n 1, 1) := by decide +kernel
theorem dX9_crosses_47 : decode cX9_crosses 47 = .ok (.iconst 5, 1) := by decide +kernel
theorem dX9_crosses_48 : decode cX9_crosses 48 = .ok (.invokevirtual 102, 3) := by decide +kernel
theorem dX9_crosses_51 : decode cX9_crosses 51 = .ok (.ifCond .ne 16, 3) := by decide +kernel
theorem dX9_crosses_54 : decode cX9_crosses 54 = .ok (.aload_n 0, 1) := by decide +kernel
theorem dX9_crosses_55 : decode cX9_crosses 55 = .ok (.iload_n 1, 1) := by decide +kernel
theorem dX9_crosses_56 : decode cX9_crosses 56 = .ok (.iconst 3, 1) := by decide +kernel
theorem dX9_crosses_57 : decode cX9_crosses 57 = .ok (.aload_n 0, 1) := by decide +kernel
theorem dX9_crosses_58 : decode cX9_crosses 58 = .ok (.iload_n 1, 1) := by decide +kernel
theorem dX9_crosses_59 : decode cX9_crosses 59 = .ok (.iconst 2, 1) := by decide +kernel
theorem dX9_crosses_60 : decode cX9_crosses 60 = .ok (.invokevirtual 102, 3) := by decide +kernel
theorem dX9_crosses_63 : decode cX9_crosses 63 = .ok (.invokevirtual 110, 3) := by decide +kernel
theorem dX9_crosses_66 : decode cX9_crosses 66 = .ok (.pop, 1) := by decide +kernel
theorem dX9_crosses_67 : decode cX9_crosses 67 = .ok (.return_, 1) := by decide +kernel
theorem dX9_isTruly_0 : decode cX9_isTruly 0 = .ok (.aload_n 0, 1) := by decide +kernel
theorem dX9_isTruly_1 : decode cX9_isTruly 1 = .ok (.iload_n 1, 1) := by decide +kernel
theorem dX9_isTruly_2 : decode cX9_isTruly 2 = .ok (.iconst 2, 1) := by decide +kernel
theorem dX9_isTruly_3 : decode cX9_isTruly 3 = .ok (.invokevirtual 102, 3) := by decide +kernel
theorem dX9_isTruly_6 : decode cX9_isTruly 6 = .ok (.iload_n 2, 1) := by decide +kernel
theorem dX9_isTruly_7 : decode cX9_isTruly 7 = .ok (.if_icmp .ne 16, 3) := by decide +kernel
theorem dX9_isTruly_10 : decode cX9_isTruly 10 = .ok (.aload_n 0, 1) := by decide +kernel
theorem dX9_isTruly_11 : decode cX9_isTruly 11 = .ok (.iload_n 1, 1) := by decide +kernel
theorem dX9_isTruly_12 : decode cX9_isTruly 12 = .ok (.iconst 5, 1) := by decide +kernel
theorem dX9_isTruly_13 : decode cX9_isTruly 13 = .ok (.invokevirtual 102, 3) := by decide +kernel
theorem dX9_isTruly_16 : decode cX9_isTruly 16 = .ok (.ifCond .ne 7, 3) := by decide +kernel
theorem dX9_isTruly_19 : decode cX9_isTruly 19 = .ok (.iconst 1, 1) := by decide +kernel
theorem dX9_isTruly_20 : decode cX9_isTruly 20 = .ok (.goto 4, 3) := by decide +kernel
theorem dX9_isTruly_23 : decode cX9_isTruly 23 = .ok (.iconst 0, 1) := by decide +kernel
theorem dX9_isTruly_24 : decode cX9_isTruly 24 = .ok (.ireturn, 1) := by decide +kernel
theorem dX9_arrive_0 : decode cX9_arrive 0 = .ok (.aload_n 0, 1) := by decide +kernel
theorem dX9_arrive_1 : decode cX9_arrive 1 = .ok (.getfield 49, 3) := by decide +kernel
theorem dX9_arrive_4 : decode cX9_arrive 4 = .ok (.iload_n 1, 1) := by decide +kernel
theorem dX9_arrive_5 : decode cX9_arrive 5 = .ok (.baload, 1) := by decide +kernel
theorem dX9_arrive_6 : decode cX9_arrive 6 = .ok (.ifCond .ne 61, 3) := by decide +kernel
theorem dX9_arrive_9 : decode cX9_arrive 9 = .ok (.aload_n 0, 1) := by decide +kernel
theorem dX9_arrive_10 : decode cX9_arrive 10 = .ok (.getfield 49, 3) := by decide +kernel
theorem dX9_arrive_13 : decode cX9_arrive 13 = .ok (.iload_n 1, 1) := by decide +kernel
theorem dX9_arrive_14 : decode cX9_arrive 14 = .ok (.iconst 1, 1) := by decide +kernel
theorem dX9_arrive_15 : decode cX9_arrive 15 = .ok (.bastore, 1) := by decide +kernel
theorem dX9_arrive_16 : decode cX9_arrive 16 = .ok (.aload_n 0, 1) := by decide +kernel
theorem dX9_arrive_17 : decode cX9_arrive 17 = .ok (.getfield 53, 3) := by decide +kernel
theorem dX9_arrive_20 : decode cX9_arrive 20 = .ok (.aload_n 0, 1) := by decide +kernel
theorem dX9_arrive_21 : decode cX9_arrive 21 = .ok (.getfield 226, 3) := by decide +kernel
theorem dX9_arrive_24 : decode cX9_arrive 24 = .ok (.iload_n 1, 1) := by decide +kernel
theorem dX9_arrive_25 : decode cX9_arrive 25 = .ok (.iastore, 1) := by decide +kernel
theorem dX9_arrive_26 : decode cX9_arrive 26 = .ok (.aload_n 0, 1) := by decide +kernel
theorem dX9_arrive_27 : decode cX9_arrive 27 = .ok (.getfield 56, 3) := by decide +kernel
theorem dX9_arrive_30 : decode cX9_arrive 30 = .ok (.aload_n 0, 1) := by decide +kernel
theorem dX9_arrive_31 : decode cX9_arrive 31 = .ok (.getfield 226, 3) := by decide +kernel
theorem dX9_arrive_34 : decode cX9_arrive 34 = .ok (.iload_n 2, 1) := by decide +kernel
theorem dX9_arrive_35 : decode cX9_arrive 35 = .ok (.iastore, 1) := by decide +kernel
theorem dX9_arrive_36 : decode cX9_arrive 36 = .ok (.aload_n 0, 1) := by decide +kernel
theorem dX9_arrive_37 : decode cX9_arrive 37 = .ok (.getfield 59, 3) := by decide +kernel
theorem dX9_arrive_40 : decode cX9_arrive 40 = .ok (.aload_n 0, 1) := by decide +kernel
theorem dX9_arrive_41 : decode cX9_arrive 41 = .ok (.getfield 226, 3) := by decide +kernel
theorem dX9_arrive_44 : decode cX9_arrive 44 = .ok (.iload_n 3, 1) := by decide +kernel
theorem dX9_arrive_45 : decode cX9_arrive 45 = .ok (.iastore, 1) := by decide +kernel
theorem dX9_arrive_46 : decode cX9_arrive 46 = .ok (.aload_n 0, 1) := by decide +kernel
theorem dX9_arrive_47 : decode cX9_arrive 47 = .ok (.getfield 62, 3) := by decide +kernel
theorem dX9_arrive_50 : decode cX9_arrive 50 = .ok (.aload_n 0, 1) := by decide +kernel
theorem dX9_arrive_51 : decode cX9_arrive 51 = .ok (.getfield 226, 3) := by decide +kernel
theorem dX9_arrive_54 : decode cX9_arrive 54 = .ok (.iload 4, 2) := by decide +kernel
theorem dX9_arrive_56 : decode cX9_arrive 56 = .ok (.iastore, 1) := by decide +kernel
theorem dX9_arrive_57 : decode cX9_arrive 57 = .ok (.aload_n 0, 1) := by decide +kernel
theorem dX9_arrive_58 : decode cX9_arrive 58 = .ok (.dup, 1) := by decide +kernel
theorem dX9_arrive_59 : decode cX9_arrive 59 = .ok (.getfield 226, 3) := by decide +kernel
theorem dX9_arrive_62 : decode cX9_arrive 62 = .ok (.iconst 1, 1) := by decide +kernel
theorem dX9_arrive_63 : decode cX9_arrive 63 = .ok (.iadd, 1) := by decide +kernel
theorem dX9_arrive_64 : decode cX9_arrive 64 = .ok (.putfield 226, 3) := by decide +kernel
theorem dX9_arrive_67 : decode cX9_arrive 67 = .ok (.return_, 1) := by decide +kernel
theorem dX9_explore_0 : decode cX9_explore 0 = .ok (.aload_n 0, 1) := by decide +kernel
theorem dX9_explore_1 : decode cX9_explore 1 = .ok (.iload_n 1, 1) := by decide +kernel
theorem dX9_explore_2 : decode cX9_explore 2 = .ok (.iconst 5, 1) := by decide +kernel
theorem dX9_explore_3 : decode cX9_explore 3 = .ok (.invokevirtual 102, 3) := by decide +kernel
theorem dX9_explore_6 : decode cX9_explore 6 = .ok (.istore_n 2, 1) := by decide +kernel
theorem dX9_explore_7 : decode cX9_explore 7 = .ok (.iconst 0, 1) := by decide +kernel
theorem dX9_explore_8 : decode cX9_explore 8 = .ok (.istore_n 3, 1) := by decide +kernel
theorem dX9_explore_9 : decode cX9_explore 9 = .ok (.iload_n 3, 1) := by decide +kernel
theorem dX9_explore_10 : decode cX9_explore 10 = .ok (.aload_n 0, 1) := by decide +kernel
theorem dX9_explore_11 : decode cX9_explore 11 = .ok (.getfield 9, 3) := by decide +kernel
theorem dX9_explore_14 : decode cX9_explore 14 = .ok (.bipush 93, 2) := by decide +kernel
theorem dX9_explore_16 : decode cX9_explore 16 = .ok (.iaload, 1) := by decide +kernel
theorem dX9_explore_17 : decode cX9_explore 17 = .ok (.if_icmp .gt 32, 3) := by decide +kernel
theorem dX9_explore_20 : decode cX9_explore 20 = .ok (.aload_n 0, 1) := by decide +kernel
theorem dX9_explore_21 : decode cX9_explore 21 = .ok (.iload_n 1, 1) := by decide +kernel
theorem dX9_explore_22 : decode cX9_explore 22 = .ok (.iconst 5, 1) := by decide +kernel
theorem dX9_explore_23 : decode cX9_explore 23 = .ok (.iconst 1, 1) := by decide +kernel
theorem dX9_explore_24 : decode cX9_explore 24 = .ok (.iload_n 3, 1) := by decide +kernel
theorem dX9_explore_25 : decode cX9_explore 25 = .ok (.ishl, 1) := by decide +kernel
theorem dX9_explore_26 : decode cX9_explore 26 = .ok (.iconst 1, 1) := by decide +kernel
theorem dX9_explore_27 : decode cX9_explore 27 = .ok (.isub, 1) := by decide +kernel
theorem dX9_explore_28 : decode cX9_explore 28 = .ok (.invokevirtual 110, 3) := by decide +kernel
theorem dX9_explore_31 : decode cX9_explore 31 = .ok (.pop, 1) := by decide +kernel
theorem dX9_explore_32 : decode cX9_explore 32 = .ok (.aload_n 0, 1) := by decide +kernel
theorem dX9_explore_33 : decode cX9_explore 33 = .ok (.getfield 46, 3) := by decide +kernel
theorem dX9_explore_36 : decode cX9_explore 36 = .ok (.iload_n 3, 1) := by decide +kernel
theorem dX9_explore_37 : decode cX9_explore 37 = .ok (.aload_n 0, 1) := by decide +kernel
theorem dX9_explore_38 : decode cX9_explore 38 = .ok (.iload_n 1, 1) := by decide +kernel
theorem dX9_explore_39 : decode cX9_explore 39 = .ok (.invokevirtual 220, 3) := by decide +kernel
theorem dX9_explore_42 : decode cX9_explore 42 = .ok (.iastore, 1) := by decide +kernel
theorem dX9_explore_43 : decode cX9_explore 43 = .ok (.iinc 3 1, 3) := by decide +kernel
theorem dX9_explore_46 : decode cX9_explore 46 = .ok (.goto (-37), 3) := by decide +kernel
theorem dX9_explore_49 : decode cX9_explore 49 = .ok (.aload_n 0, 1) := by decide +kernel
theorem dX9_explore_50 : decode cX9_explore 50 = .ok (.iload_n 1, 1) := by decide +kernel
theorem dX9_explore_51 : decode cX9_explore 51 = .ok (.iconst 5, 1) := by decide +kernel
theorem dX9_explore_52 : decode cX9_explore 52 = .ok (.iload_n 2, 1) := by decide +kernel
theorem dX9_explore_53 : decode cX9_explore 53 = .ok (.invokevirtual 110, 3) := by decide +kernel
theorem dX9_explore_56 : decode cX9_explore 56 = .ok (.pop, 1) := by decide +kernel
theorem dX9_explore_57 : decode cX9_explore 57 = .ok (.iconst 0, 1) := by decide +kernel
theorem dX9_explore_58 : decode cX9_explore 58 = .ok (.istore_n 3, 1) := by decide +kernel
theorem dX9_explore_59 : decode cX9_explore 59 = .ok (.iload_n 3, 1) := by decide +kernel
theorem dX9_explore_60 : decode cX9_explore 60 = .ok (.sipush 1536, 3) := by decide +kernel
theorem dX9_explore_63 : decode cX9_explore 63 = .ok (.if_icmp .ge 16, 3) := by decide +kernel
theorem dX9_explore_66 : decode cX9_explore 66 = .ok (.aload_n 0, 1) := by decide +kernel
theorem dX9_explore_67 : decode cX9_explore 67 = .ok (.getfield 49, 3) := by decide +kernel
theorem dX9_explore_70 : decode cX9_explore 70 = .ok (.iload_n 3, 1) := by decide +kernel
theorem dX9_explore_71 : decode cX9_explore 71 = .ok (.iconst 0, 1) := by decide +kernel
theorem dX9_explore_72 : decode cX9_explore 72 = .ok (.bastore, 1) := by decide +kernel
theorem dX9_explore_73 : decode cX9_explore 73 = .ok (.iinc 3 1, 3) := by decide +kernel
theorem dX9_explore_76 : decode cX9_explore 76 = .ok (.goto (-17), 3) := by decide +kernel
theorem dX9_explore_79 : decode cX9_explore 79 = .ok (.aload_n 0, 1) := by decide +kernel
theorem dX9_explore_80 : decode cX9_explore 80 = .ok (.iconst 0, 1) := by decide +kernel
theorem dX9_explore_81 : decode cX9_explore 81 = .ok (.putfield 226, 3) := by decide +kernel
theorem dX9_explore_84 : decode cX9_explore 84 = .ok (.aload_n 0, 1) := by decide +kernel
theorem dX9_explore_85 : decode cX9_explore 85 = .ok (.sipush 256, 3) := by decide +kernel
theorem dX9_explore_88 : decode cX9_explore 88 = .ok (.aload_n 0, 1) := by decide +kernel
theorem dX9_explore_89 : decode cX9_explore 89 = .ok (.iload_n 1, 1) := by decide +kernel
theorem dX9_explore_90 : decode cX9_explore 90 = .ok (.iconst 2, 1) := by decide +kernel
theorem dX9_explore_91 : decode cX9_explore 91 = .ok (.invokevirtual 102, 3) := by decide +kernel
theorem dX9_explore_94 : decode cX9_explore 94 = .ok (.imul, 1) := by decide +kernel
theorem dX9_explore_95 : decode cX9_explore 95 = .ok (.iload_n 2, 1) := by decide +kernel
theorem dX9_explore_96 : decode cX9_explore 96 = .ok (.iadd, 1) := by decide +kernel
theorem dX9_explore_97 : decode cX9_explore 97 = .ok (.iconst (-1), 1) := by decide +kernel
theorem dX9_explore_98 : decode cX9_explore 98 = .ok (.iconst (-1), 1) := by decide +kernel
theorem dX9_explore_99 : decode cX9_explore 99 = .ok (.iconst 0, 1) := by decide +kernel
theorem dX9_explore_100 : decode cX9_explore 100 = .ok (.invokevirtual 229, 3) := by decide +kernel
theorem dX9_explore_103 : decode cX9_explore 103 = .ok (.iconst 0, 1) := by decide +kernel
theorem dX9_explore_104 : decode cX9_explore 104 = .ok (.istore_n 3, 1) := by decide +kernel
theorem dX9_explore_105 : decode cX9_explore 105 = .ok (.iload_n 3, 1) := by decide +kernel
theorem dX9_explore_106 : decode cX9_explore 106 = .ok (.aload_n 0, 1) := by decide +kernel
theorem dX9_explore_107 : decode cX9_explore 107 = .ok (.getfield 226, 3) := by decide +kernel
theorem dX9_explore_110 : decode cX9_explore 110 = .ok (.if_icmp .ge 166, 3) := by decide +kernel
theorem dX9_explore_113 : decode cX9_explore 113 = .ok (.aload_n 0, 1) := by decide +kernel
theorem dX9_explore_114 : decode cX9_explore 114 = .ok (.getfield 53, 3) := by decide +kernel
theorem dX9_explore_117 : decode cX9_explore 117 = .ok (.iload_n 3, 1) := by decide +kernel
theorem dX9_explore_118 : decode cX9_explore 118 = .ok (.iaload, 1) := by decide +kernel
theorem dX9_explore_119 : decode cX9_explore 119 = .ok (.sipush 256, 3) := by decide +kernel
theorem dX9_explore_122 : decode cX9_explore 122 = .ok (.idiv, 1) := by decide +kernel
theorem dX9_explore_123 : decode cX9_explore 123 = .ok (.istore 4, 2) := by decide +kernel
theorem dX9_explore_125 : decode cX9_explore 125 = .ok (.aload_n 0, 1) := by decide +kernel
theorem dX9_explore_126 : decode cX9_explore 126 = .ok (.getfield 53, 3) := by decide +kernel
theorem dX9_explore_129 : decode cX9_explore 129 = .ok (.iload_n 3, 1) := by decide +kernel
theorem dX9_explore_130 : decode cX9_explore 130 = .ok (.iaload, 1) := by decide +kernel
theorem dX9_explore_131 : decode cX9_explore 131 = .ok (.sipush 256, 3) := by decide +kernel
theorem dX9_explore_134 : decode cX9_explore 134 = .ok (.irem, 1) := by decide +kernel
theorem dX9_explore_135 : decode cX9_explore 135 = .ok (.istore 5, 2) := by decide +kernel
theorem dX9_explore_137 : decode cX9_explore 137 = .ok (.iconst 0, 1) := by decide +kernel
theorem dX9_explore_138 : decode cX9_explore 138 = .ok (.istore 6, 2) := by decide +kernel
theorem dX9_explore_140 : decode cX9_explore 140 = .ok (.iload 6, 2) := by decide +kernel
theorem dX9_explore_142 : decode cX9_explore 142 = .ok (.aload_n 0, 1) := by decide +kernel
theorem dX9_explore_143 : decode cX9_explore 143 = .ok (.getfield 9, 3) := by decide +kernel
theorem dX9_explore_146 : decode cX9_explore 146 = .ok (.bipush 93, 2) := by decide +kernel
theorem dX9_explore_148 : decode cX9_explore 148 = .ok (.iaload, 1) := by decide +kernel
theorem dX9_explore_149 : decode cX9_explore 149 = .ok (.if_icmp .ge 121, 3) := by decide +kernel
theorem dX9_explore_152 : decode cX9_explore 152 = .ok (.aload_n 0, 1) := by decide +kernel
theorem dX9_explore_153 : decode cX9_explore 153 = .ok (.getfield 62, 3) := by decide +kernel
theorem dX9_explore_156 : decode cX9_explore 156 = .ok (.iload_n 3, 1) := by decide +kernel
theorem dX9_explore_157 : decode cX9_explore 157 = .ok (.iaload, 1) := by decide +kernel
theorem dX9_explore_158 : decode cX9_explore 158 = .ok (.bipush 12, 2) := by decide +kernel
theorem dX9_explore_160 : decode cX9_explore 160 = .ok (.if_icmp .ge 110, 3) := by decide +kernel
theorem dX9_explore_163 : decode cX9_explore 163 = .ok (.aload_n 0, 1) := by decide +kernel
theorem dX9_explore_164 : decode cX9_explore 164 = .ok (.iload 6, 2) := by decide +kernel
theorem dX9_explore_166 : decode cX9_explore 166 = .ok (.iconst 0, 1) := by decide +kernel
theorem dX9_explore_167 : decode cX9_explore 167 = .ok (.invokevirtual 217, 3) := by decide +kernel
theorem dX9_explore_170 : decode cX9_explore 170 = .ok (.iload 4, 2) := by decide +kernel
theorem dX9_explore_172 : decode cX9_explore 172 = .ok (.if_icmp .eq 15, 3) := by decide +kernel
theorem dX9_explore_175 : decode cX9_explore 175 = .ok (.aload_n 0, 1) := by decide +kernel
theorem dX9_explore_176 : decode cX9_explore 176 = .ok (.iload 6, 2) := by decide +kernel
theorem dX9_explore_178 : decode cX9_explore 178 = .ok (.iconst 1, 1) := by decide +kernel
theorem dX9_explore_179 : decode cX9_explore 179 = .ok (.invokevirtual 217, 3) := by decide +kernel
theorem dX9_explore_182 : decode cX9_explore 182 = .ok (.iload 4, 2) := by decide +kernel
theorem dX9_explore_184 : decode cX9_explore 184 = .ok (.if_icmp .ne 7, 3) := by decide +kernel
theorem dX9_explore_187 : decode cX9_explore 187 = .ok (.iconst 1, 1) := by decide +kernel
theorem dX9_explore_188 : decode cX9_explore 188 = .ok (.goto 4, 3) := by decide +kernel
theorem dX9_explore_191 : decode cX9_explore 191 = .ok (.iconst 0, 1) := by decide +kernel
theorem dX9_explore_192 : decode cX9_explore 192 = .ok (.istore 7, 2) := by decide +kernel
theorem dX9_explore_194 : decode cX9_explore 194 = .ok (.iload 7, 2) := by decide +kernel
theorem dX9_explore_196 : decode cX9_explore 196 = .ok (.ifCond .eq 68, 3) := by decide +kernel
theorem dX9_explore_199 : decode cX9_explore 199 = .ok (.aload_n 0, 1) := by decide +kernel
theorem dX9_explore_200 : decode cX9_explore 200 = .ok (.getfield 46, 3) := by decide +kernel
theorem dX9_explore_203 : decode cX9_explore 203 = .ok (.iload 5, 2) := by decide +kernel
theorem dX9_explore_205 : decode cX9_explore 205 = .ok (.invokestatic 202, 3) := by decide +kernel
theorem dX9_explore_208 : decode cX9_explore 208 = .ok (.iaload, 1) := by decide +kernel
theorem dX9_explore_209 : decode cX9_explore 209 = .ok (.iload 6, 2) := by decide +kernel
theorem dX9_explore_211 : decode cX9_explore 211 = .ok (.ishr, 1) := by decide +kernel
theorem dX9_explore_212 : decode cX9_explore 212 = .ok (.iconst 1, 1) := by decide +kernel
theorem dX9_explore_213 : decode cX9_explore 213 = .ok (.iand, 1) := by decide +kernel
theorem dX9_explore_214 : decode cX9_explore 214 = .ok (.iconst 1, 1) := by decide +kernel
theorem dX9_explore_215 : decode cX9_explore 215 = .ok (.if_icmp .ne 49, 3) := by decide +kernel
theorem dX9_explore_218 : decode cX9_explore 218 = .ok (.aload_n 0, 1) := by decide +kernel
theorem dX9_explore_219 : decode cX9_explore 219 = .ok (.sipush 256, 3) := by decide +kernel
theorem dX9_explore_222 : decode cX9_explore 222 = .ok (.aload_n 0, 1) := by decide +kernel
theorem dX9_explore_223 : decode cX9_explore 223 = .ok (.iload 6, 2) := by decide +kernel
theorem dX9_explore_225 : decode cX9_explore 225 = .ok (.iconst 0, 1) := by decide +kernel
theorem dX9_explore_226 : decode cX9_explore 226 = .ok (.invokevirtual 217, 3) := by decide +kernel
theorem dX9_explore_229 : decode cX9_explore 229 = .ok (.aload_n 0, 1) := by decide +kernel
theorem dX9_explore_230 : decode cX9_explore 230 = .ok (.iload 6, 2) := by decide +kernel
theorem dX9_explore_232 : decode cX9_explore 232 = .ok (.iconst 1, 1) := by decide +kernel
theorem dX9_explore_233 : decode cX9_explore 233 = .ok (.invokevirtual 217, 3) := by decide +kernel
theorem dX9_explore_236 : decode cX9_explore 236 = .ok (.iadd, 1) := by decide +kernel
theorem dX9_explore_237 : decode cX9_explore 237 = .ok (.iload 4, 2) := by decide +kernel
theorem dX9_explore_239 : decode cX9_explore 239 = .ok (.isub, 1) := by decide +kernel
theorem dX9_explore_240 : decode cX9_explore 240 = .ok (.imul, 1) := by decide +kernel
theorem dX9_explore_241 : decode cX9_explore 241 = .ok (.aload_n 0, 1) := by decide +kernel
theorem dX9_explore_242 : decode cX9_explore 242 = .ok (.iload 5, 2) := by decide +kernel
theorem dX9_explore_244 : decode cX9_explore 244 = .ok (.iload 6, 2) := by decide +kernel
theorem dX9_explore_246 : decode cX9_explore 246 = .ok (.invokevirtual 223, 3) := by decide +kernel
theorem dX9_explore_249 : decode cX9_explore 249 = .ok (.iadd, 1) := by decide +kernel
theorem dX9_explore_250 : decode cX9_explore 250 = .ok (.iload_n 3, 1) := by decide +kernel
theorem dX9_explore_251 : decode cX9_explore 251 = .ok (.iload 6, 2) := by decide +kernel
theorem dX9_explore_253 : decode cX9_explore 253 = .ok (.aload_n 0, 1) := by decide +kernel
theorem dX9_explore_254 : decode cX9_explore 254 = .ok (.getfield 62, 3) := by decide +kernel
theorem dX9_explore_257 : decode cX9_explore 257 = .ok (.iload_n 3, 1) := by decide +kernel
theorem dX9_explore_258 : decode cX9_explore 258 = .ok (.iaload, 1) := by decide +kernel
theorem dX9_explore_259 : decode cX9_explore 259 = .ok (.iconst 1, 1) := by decide +kernel
theorem dX9_explore_260 : decode cX9_explore 260 = .ok (.iadd, 1) := by decide +kernel
theorem dX9_explore_261 : decode cX9_explore 261 = .ok (.invokevirtual 229, 3) := by decide +kernel
theorem dX9_explore_264 : decode cX9_explore 264 = .ok (.iinc 6 1, 3) := by decide +kernel
theorem dX9_explore_267 : decode cX9_explore 267 = .ok (.goto (-127), 3) := by decide +kernel
theorem dX9_explore_270 : decode cX9_explore 270 = .ok (.iinc 3 1, 3) := by decide +kernel
theorem dX9_explore_273 : decode cX9_explore 273 = .ok (.goto (-168), 3) := by decide +kernel
theorem dX9_explore_276 : decode cX9_explore 276 = .ok (.return_, 1) := by decide +kernel
theorem dX9_longTo_0 : decode cX9_longTo 0 = .ok (.aload_n 0, 1) := by decide +kernel
theorem dX9_longTo_1 : decode cX9_longTo 1 = .ok (.iload_n 1, 1) := by decide +kernel
theorem dX9_longTo_2 : decode cX9_longTo 2 = .ok (.invokevirtual 233, 3) := by decide +kernel
theorem dX9_longTo_5 : decode cX9_longTo 5 = .ok (.iconst 0, 1) := by decide +kernel
theorem dX9_longTo_6 : decode cX9_longTo 6 = .ok (.istore_n 3, 1) := by decide +kernel
theorem dX9_longTo_7 : decode cX9_longTo 7 = .ok (.iload_n 3, 1) := by decide +kernel
theorem dX9_longTo_8 : decode cX9_longTo 8 = .ok (.aload_n 0, 1) := by decide +kernel
theorem dX9_longTo_9 : decode cX9_longTo 9 = .ok (.getfield 226, 3) := by decide +kernel
theorem dX9_longTo_12 : decode cX9_longTo 12 = .ok (.if_icmp .ge 77, 3) := by decide +kernel
theorem dX9_longTo_15 : decode cX9_longTo 15 = .ok (.aload_n 0, 1) := by decide +kernel
theorem dX9_longTo_16 : decode cX9_longTo 16 = .ok (.getfield 53, 3) := by decide +kernel
theorem dX9_longTo_19 : decode cX9_longTo 19 = .ok (.iload_n 3, 1) := by decide +kernel
theorem dX9_longTo_20 : decode cX9_longTo 20 = .ok (.iaload, 1) := by decide +kernel
theorem dX9_longTo_21 : decode cX9_longTo 21 = .ok (.sipush 256, 3) := by decide +kernel
theorem dX9_longTo_24 : decode cX9_longTo 24 = .ok (.iload_n 2, 1) := by decide +kernel
theorem dX9_longTo_25 : decode cX9_longTo 25 = .ok (.imul, 1) := by decide +kernel
theorem dX9_longTo_26 : decode cX9_longTo 26 = .ok (.if_icmp .ne 57, 3) := by decide +kernel
theorem dX9_longTo_29 : decode cX9_longTo 29 = .ok (.aload_n 0, 1) := by decide +kernel
theorem dX9_longTo_30 : decode cX9_longTo 30 = .ok (.getfield 62, 3) := by decide +kernel
theorem dX9_longTo_33 : decode cX9_longTo 33 = .ok (.iload_n 3, 1) := by decide +kernel
theorem dX9_longTo_34 : decode cX9_longTo 34 = .ok (.iaload, 1) := by decide +kernel
theorem dX9_longTo_35 : decode cX9_longTo 35 = .ok (.istore 4, 2) := by decide +kernel
theorem dX9_longTo_37 : decode cX9_longTo 37 = .ok (.iload_n 3, 1) := by decide +kernel
theorem dX9_longTo_38 : decode cX9_longTo 38 = .ok (.istore 5, 2) := by decide +kernel
theorem dX9_longTo_40 : decode cX9_longTo 40 = .ok (.iload 4, 2) := by decide +kernel
theorem dX9_longTo_42 : decode cX9_longTo 42 = .ok (.iconst 1, 1) := by decide +kernel
theorem dX9_longTo_43 : decode cX9_longTo 43 = .ok (.isub, 1) := by decide +kernel
theorem dX9_longTo_44 : decode cX9_longTo 44 = .ok (.istore 6, 2) := by decide +kernel
theorem dX9_longTo_46 : decode cX9_longTo 46 = .ok (.iload 6, 2) := by decide +kernel
theorem dX9_longTo_48 : decode cX9_longTo 48 = .ok (.ifCond .lt 32, 3) := by decide +kernel
theorem dX9_longTo_51 : decode cX9_longTo 51 = .ok (.aload_n 0, 1) := by decide +kernel
theorem dX9_longTo_52 : decode cX9_longTo 52 = .ok (.getfield 65, 3) := by decide +kernel
theorem dX9_longTo_55 : decode cX9_longTo 55 = .ok (.iload 6, 2) := by decide +kernel
theorem dX9_longTo_57 : decode cX9_longTo 57 = .ok (.aload_n 0, 1) := by decide +kernel
theorem dX9_longTo_58 : decode cX9_longTo 58 = .ok (.getfield 59, 3) := by decide +kernel
theorem dX9_longTo_61 : decode cX9_longTo 61 = .ok (.iload 5, 2) := by decide +kernel
theorem dX9_longTo_63 : decode cX9_longTo 63 = .ok (.iaload, 1) := by decide +kernel
theorem dX9_longTo_64 : decode cX9_longTo 64 = .ok (.iastore, 1) := by decide +kernel
theorem dX9_longTo_65 : decode cX9_longTo 65 = .ok (.aload_n 0, 1) := by decide +kernel
theorem dX9_longTo_66 : decode cX9_longTo 66 = .ok (.getfield 56, 3) := by decide +kernel
theorem dX9_longTo_69 : decode cX9_longTo 69 = .ok (.iload 5, 2) := by decide +kernel
theorem dX9_longTo_71 : decode cX9_longTo 71 = .ok (.iaload, 1) := by decide +kernel
theorem dX9_longTo_72 : decode cX9_longTo 72 = .ok (.istore 5, 2) := by decide +kernel
theorem dX9_longTo_74 : decode cX9_longTo 74 = .ok (.iinc 6 (-1), 3) := by decide +kernel
theorem dX9_longTo_77 : decode cX9_longTo 77 = .ok (.goto (-31), 3) := by decide +kernel
theorem dX9_longTo_80 : decode cX9_longTo 80 = .ok (.iload 4, 2) := by decide +kernel
theorem dX9_longTo_82 : decode cX9_longTo 82 = .ok (.ireturn, 1) := by decide +kernel
theorem dX9_longTo_83 : decode cX9_longTo 83 = .ok (.iinc 3 1, 3) := by decide +kernel
theorem dX9_longTo_86 : decode cX9_longTo 86 = .ok (.goto (-79), 3) := by decide +kernel
theorem dX9_longTo_89 : decode cX9_longTo 89 = .ok (.bipush (-5), 2) := by decide +kernel
theorem dX9_longTo_91 : decode cX9_longTo 91 = .ok (.ireturn, 1) := by decide +kernel
theorem dX9_reach_0 : decode cX9_reach 0 = .ok (.aload_n 0, 1) := by decide +kernel
theorem dX9_reach_1 : decode cX9_reach 1 = .ok (.iload_n 1, 1) := by decide +kernel
theorem dX9_reach_2 : decode cX9_reach 2 = .ok (.invokevirtual 233, 3) := by decide +kernel
theorem dX9_reach_5 : decode cX9_reach 5 = .ok (.iconst 0, 1) := by decide +kernel
theorem dX9_reach_6 : decode cX9_reach 6 = .ok (.istore_n 2, 1) := by decide +kernel
theorem dX9_reach_7 : decode cX9_reach 7 = .ok (.iconst 0, 1) := by decide +kernel
theorem dX9_reach_8 : decode cX9_reach 8 = .ok (.istore_n 3, 1) := by decide +kernel
theorem dX9_reach_9 : decode cX9_reach 9 = .ok (.iload_n 3, 1) := by decide +kernel
theorem dX9_reach_10 : decode cX9_reach 10 = .ok (.bipush 6, 2) := by decide +kernel
theorem dX9_reach_12 : decode cX9_reach 12 = .ok (.if_icmp .ge 32, 3) := by decide +kernel
theorem dX9_reach_15 : decode cX9_reach 15 = .ok (.iload_n 2, 1) := by decide +kernel
theorem dX9_reach_16 : decode cX9_reach 16 = .ok (.aload_n 0, 1) := by decide +kernel
theorem dX9_reach_17 : decode cX9_reach 17 = .ok (.getfield 49, 3) := by decide +kernel
theorem dX9_reach_20 : decode cX9_reach 20 = .ok (.sipush 256, 3) := by decide +kernel
theorem dX9_reach_23 : decode cX9_reach 23 = .ok (.iload_n 3, 1) := by decide +kernel
theorem dX9_reach_24 : decode cX9_reach 24 = .ok (.imul, 1) := by decide +kernel
theorem dX9_reach_25 : decode cX9_reach 25 = .ok (.baload, 1) := by decide +kernel
theorem dX9_reach_26 : decode cX9_reach 26 = .ok (.ifCond .eq 9, 3) := by decide +kernel
theorem dX9_reach_29 : decode cX9_reach 29 = .ok (.iconst 1, 1) := by decide +kernel
theorem dX9_reach_30 : decode cX9_reach 30 = .ok (.iload_n 3, 1) := by decide +kernel
theorem dX9_reach_31 : decode cX9_reach 31 = .ok (.ishl, 1) := by decide +kernel
theorem dX9_reach_32 : decode cX9_reach 32 = .ok (.goto 4, 3) := by decide +kernel
theorem dX9_reach_35 : decode cX9_reach 35 = .ok (.iconst 0, 1) := by decide +kernel
theorem dX9_reach_36 : decode cX9_reach 36 = .ok (.ior, 1) := by decide +kernel
theorem dX9_reach_37 : decode cX9_reach 37 = .ok (.istore_n 2, 1) := by decide +kernel
theorem dX9_reach_38 : decode cX9_reach 38 = .ok (.iinc 3 1, 3) := by decide +kernel
theorem dX9_reach_41 : decode cX9_reach 41 = .ok (.goto (-32), 3) := by decide +kernel
theorem dX9_reach_44 : decode cX9_reach 44 = .ok (.iload_n 2, 1) := by decide +kernel
theorem dX9_reach_45 : decode cX9_reach 45 = .ok (.ireturn, 1) := by decide +kernel
theorem dX9_hour_0 : decode cX9_hour 0 = .ok (.aload_n 0, 1) := by decide +kernel
theorem dX9_hour_1 : decode cX9_hour 1 = .ok (.iconst 0, 1) := by decide +kernel
theorem dX9_hour_2 : decode cX9_hour 2 = .ok (.iconst 0, 1) := by decide +kernel
theorem dX9_hour_3 : decode cX9_hour 3 = .ok (.invokevirtual 211, 3) := by decide +kernel
theorem dX9_hour_6 : decode cX9_hour 6 = .ok (.aload_n 0, 1) := by decide +kernel
theorem dX9_hour_7 : decode cX9_hour 7 = .ok (.getfield 9, 3) := by decide +kernel
theorem dX9_hour_10 : decode cX9_hour 10 = .ok (.bipush 94, 2) := by decide +kernel
theorem dX9_hour_12 : decode cX9_hour 12 = .ok (.iaload, 1) := by decide +kernel
theorem dX9_hour_13 : decode cX9_hour 13 = .ok (.bipush 10, 2) := by decide +kernel
theorem dX9_hour_15 : decode cX9_hour 15 = .ok (.irem, 1) := by decide +kernel
theorem dX9_hour_16 : decode cX9_hour 16 = .ok (.aload_n 0, 1) := by decide +kernel
theorem dX9_hour_17 : decode cX9_hour 17 = .ok (.getfield 193, 3) := by decide +kernel
theorem dX9_hour_20 : decode cX9_hour 20 = .ok (.if_icmp .ge 7, 3) := by decide +kernel
theorem dX9_hour_23 : decode cX9_hour 23 = .ok (.iconst 1, 1) := by decide +kernel
theorem dX9_hour_24 : decode cX9_hour 24 = .ok (.goto 4, 3) := by decide +kernel
theorem dX9_hour_27 : decode cX9_hour 27 = .ok (.iconst 0, 1) := by decide +kernel
theorem dX9_hour_28 : decode cX9_hour 28 = .ok (.istore_n 1, 1) := by decide +kernel
theorem dX9_hour_29 : decode cX9_hour 29 = .ok (.iconst 0, 1) := by decide +kernel
theorem dX9_hour_30 : decode cX9_hour 30 = .ok (.istore_n 2, 1) := by decide +kernel
theorem dX9_hour_31 : decode cX9_hour 31 = .ok (.iload_n 2, 1) := by decide +kernel
theorem dX9_hour_32 : decode cX9_hour 32 = .ok (.aload_n 0, 1) := by decide +kernel
theorem dX9_hour_33 : decode cX9_hour 33 = .ok (.getfield 9, 3) := by decide +kernel
theorem dX9_hour_36 : decode cX9_hour 36 = .ok (.bipush 92, 2) := by decide +kernel
theorem dX9_hour_38 : decode cX9_hour 38 = .ok (.iaload, 1) := by decide +kernel
theorem dX9_hour_39 : decode cX9_hour 39 = .ok (.if_icmp .ge 54, 3) := by decide +kernel
theorem dX9_hour_42 : decode cX9_hour 42 = .ok (.iload_n 1, 1) := by decide +kernel
theorem dX9_hour_43 : decode cX9_hour 43 = .ok (.ifCond .ne 50, 3) := by decide +kernel
theorem dX9_hour_46 : decode cX9_hour 46 = .ok (.aload_n 0, 1) := by decide +kernel
theorem dX9_hour_47 : decode cX9_hour 47 = .ok (.iload_n 2, 1) := by decide +kernel
theorem dX9_hour_48 : decode cX9_hour 48 = .ok (.iconst 4, 1) := by decide +kernel
theorem dX9_hour_49 : decode cX9_hour 49 = .ok (.invokevirtual 102, 3) := by decide +kernel
theorem dX9_hour_52 : decode cX9_hour 52 = .ok (.istore_n 3, 1) := by decide +kernel
theorem dX9_hour_53 : decode cX9_hour 53 = .ok (.iload_n 3, 1) := by decide +kernel
theorem dX9_hour_54 : decode cX9_hour 54 = .ok (.iconst (-1), 1) := by decide +kernel
theorem dX9_hour_55 : decode cX9_hour 55 = .ok (.if_icmp .eq 32, 3) := by decide +kernel
theorem dX9_hour_58 : decode cX9_hour 58 = .ok (.aload_n 0, 1) := by decide +kernel
theorem dX9_hour_59 : decode cX9_hour 59 = .ok (.iload_n 2, 1) := by decide +kernel
theorem dX9_hour_60 : decode cX9_hour 60 = .ok (.iload_n 3, 1) := by decide +kernel
theorem dX9_hour_61 : decode cX9_hour 61 = .ok (.invokevirtual 236, 3) := by decide +kernel
theorem dX9_hour_64 : decode cX9_hour 64 = .ok (.ifCond .ne 23, 3) := by decide +kernel
theorem dX9_hour_67 : decode cX9_hour 67 = .ok (.aload_n 0, 1) := by decide +kernel
theorem dX9_hour_68 : decode cX9_hour 68 = .ok (.iload_n 2, 1) := by decide +kernel
theorem dX9_hour_69 : decode cX9_hour 69 = .ok (.iload_n 3, 1) := by decide +kernel
theorem dX9_hour_70 : decode cX9_hour 70 = .ok (.invokevirtual 239, 3) := by decide +kernel
theorem dX9_hour_73 : decode cX9_hour 73 = .ok (.ifCond .le 14, 3) := by decide +kernel
theorem dX9_hour_76 : decode cX9_hour 76 = .ok (.aload_n 0, 1) := by decide +kernel
theorem dX9_hour_77 : decode cX9_hour 77 = .ok (.iload_n 2, 1) := by decide +kernel
theorem dX9_hour_78 : decode cX9_hour 78 = .ok (.aload_n 0, 1) := by decide +kernel
theorem dX9_hour_79 : decode cX9_hour 79 = .ok (.getfield 65, 3) := by decide +kernel
theorem dX9_hour_82 : decode cX9_hour 82 = .ok (.iconst 0, 1) := by decide +kernel
theorem dX9_hour_83 : decode cX9_hour 83 = .ok (.iaload, 1) := by decide +kernel
theorem dX9_hour_84 : decode cX9_hour 84 = .ok (.invokevirtual 139, 3) := by decide +kernel
theorem dX9_hour_87 : decode cX9_hour 87 = .ok (.iinc 2 1, 3) := by decide +kernel
theorem dX9_hour_90 : decode cX9_hour 90 = .ok (.goto (-59), 3) := by decide +kernel
theorem dX9_hour_93 : decode cX9_hour 93 = .ok (.aload_n 0, 1) := by decide +kernel
theorem dX9_hour_94 : decode cX9_hour 94 = .ok (.getfield 9, 3) := by decide +kernel
theorem dX9_hour_97 : decode cX9_hour 97 = .ok (.bipush 94, 2) := by decide +kernel
theorem dX9_hour_99 : decode cX9_hour 99 = .ok (.dup2, 1) := by decide +kernel
theorem dX9_hour_100 : decode cX9_hour 100 = .ok (.iaload, 1) := by decide +kernel
theorem dX9_hour_101 : decode cX9_hour 101 = .ok (.iconst 1, 1) := by decide +kernel
theorem dX9_hour_102 : decode cX9_hour 102 = .ok (.iadd, 1) := by decide +kernel
theorem dX9_hour_103 : decode cX9_hour 103 = .ok (.iastore, 1) := by decide +kernel
theorem dX9_hour_104 : decode cX9_hour 104 = .ok (.return_, 1) := by decide +kernel
theorem dX9_hours_0 : decode cX9_hours 0 = .ok (.iconst 0, 1) := by decide +kernel
theorem dX9_hours_1 : decode cX9_hours 1 = .ok (.istore_n 2, 1) := by decide +kernel
theorem dX9_hours_2 : decode cX9_hours 2 = .ok (.iload_n 2, 1) := by decide +kernel
theorem dX9_hours_3 : decode cX9_hours 3 = .ok (.iload_n 1, 1) := by decide +kernel
theorem dX9_hours_4 : decode cX9_hours 4 = .ok (.if_icmp .ge 13, 3) := by decide +kernel
theorem dX9_hours_7 : decode cX9_hours 7 = .ok (.aload_n 0, 1) := by decide +kernel
theorem dX9_hours_8 : decode cX9_hours 8 = .ok (.invokevirtual 242, 3) := by decide +kernel
theorem dX9_hours_11 : decode cX9_hours 11 = .ok (.iinc 2 1, 3) := by decide +kernel
theorem dX9_hours_14 : decode cX9_hours 14 = .ok (.goto (-12), 3) := by decide +kernel
theorem dX9_hours_17 : decode cX9_hours 17 = .ok (.return_, 1) := by decide +kernel
theorem dX9_isDone_0 : decode cX9_isDone 0 = .ok (.aload_n 0, 1) := by decide +kernel
theorem dX9_isDone_1 : decode cX9_isDone 1 = .ok (.iload_n 1, 1) := by decide +kernel
theorem dX9_isDone_2 : decode cX9_isDone 2 = .ok (.iconst 4, 1) := by decide +kernel
theorem dX9_isDone_3 : decode cX9_isDone 3 = .ok (.invokevirtual 102, 3) := by decide +kernel
theorem dX9_isDone_6 : decode cX9_isDone 6 = .ok (.iconst (-1), 1) := by decide +kernel
theorem dX9_isDone_7 : decode cX9_isDone 7 = .ok (.if_icmp .eq 21, 3) := by decide +kernel
theorem dX9_isDone_10 : decode cX9_isDone 10 = .ok (.aload_n 0, 1) := by decide +kernel
theorem dX9_isDone_11 : decode cX9_isDone 11 = .ok (.iload_n 1, 1) := by decide +kernel
theorem dX9_isDone_12 : decode cX9_isDone 12 = .ok (.aload_n 0, 1) := by decide +kernel
theorem dX9_isDone_13 : decode cX9_isDone 13 = .ok (.iload_n 1, 1) := by decide +kernel
theorem dX9_isDone_14 : decode cX9_isDone 14 = .ok (.iconst 4, 1) := by decide +kernel
theorem dX9_isDone_15 : decode cX9_isDone 15 = .ok (.invokevirtual 102, 3) := by decide +kernel
theorem dX9_isDone_18 : decode cX9_isDone 18 = .ok (.invokevirtual 236, 3) := by decide +kernel
theorem dX9_isDone_21 : decode cX9_isDone 21 = .ok (.ifCond .eq 7, 3) := by decide +kernel
theorem dX9_isDone_24 : decode cX9_isDone 24 = .ok (.iconst 1, 1) := by decide +kernel
theorem dX9_isDone_25 : decode cX9_isDone 25 = .ok (.goto 4, 3) := by decide +kernel
theorem dX9_isDone_28 : decode cX9_isDone 28 = .ok (.iconst 0, 1) := by decide +kernel
theorem dX9_isDone_29 : decode cX9_isDone 29 = .ok (.ireturn, 1) := by decide +kernel
theorem dX9_dones_0 : decode cX9_dones 0 = .ok (.iconst 0, 1) := by decide +kernel
theorem dX9_dones_1 : decode cX9_dones 1 = .ok (.istore_n 1, 1) := by decide +kernel
theorem dX9_dones_2 : decode cX9_dones 2 = .ok (.iconst 0, 1) := by decide +kernel
theorem dX9_dones_3 : decode cX9_dones 3 = .ok (.istore_n 2, 1) := by decide +kernel
theorem dX9_dones_4 : decode cX9_dones 4 = .ok (.iload_n 2, 1) := by decide +kernel
theorem dX9_dones_5 : decode cX9_dones 5 = .ok (.aload_n 0, 1) := by decide +kernel
theorem dX9_dones_6 : decode cX9_dones 6 = .ok (.getfield 9, 3) := by decide +kernel
theorem dX9_dones_9 : decode cX9_dones 9 = .ok (.bipush 92, 2) := by decide +kernel
theorem dX9_dones_11 : decode cX9_dones 11 = .ok (.iaload, 1) := by decide +kernel
theorem dX9_dones_12 : decode cX9_dones 12 = .ok (.if_icmp .ge 27, 3) := by decide +kernel
theorem dX9_dones_15 : decode cX9_dones 15 = .ok (.iload_n 1, 1) := by decide +kernel
theorem dX9_dones_16 : decode cX9_dones 16 = .ok (.aload_n 0, 1) := by decide +kernel
theorem dX9_dones_17 : decode cX9_dones 17 = .ok (.iload_n 2, 1) := by decide +kernel
theorem dX9_dones_18 : decode cX9_dones 18 = .ok (.invokevirtual 245, 3) := by decide +kernel
theorem dX9_dones_21 : decode cX9_dones 21 = .ok (.ifCond .eq 9, 3) := by decide +kernel
theorem dX9_dones_24 : decode cX9_dones 24 = .ok (.iconst 1, 1) := by decide +kernel
theorem dX9_dones_25 : decode cX9_dones 25 = .ok (.iload_n 2, 1) := by decide +kernel
theorem dX9_dones_26 : decode cX9_dones 26 = .ok (.ishl, 1) := by decide +kernel
theorem dX9_dones_27 : decode cX9_dones 27 = .ok (.goto 4, 3) := by decide +kernel
theorem dX9_dones_30 : decode cX9_dones 30 = .ok (.iconst 0, 1) := by decide +kernel
theorem dX9_dones_31 : decode cX9_dones 31 = .ok (.ior, 1) := by decide +kernel
theorem dX9_dones_32 : decode cX9_dones 32 = .ok (.istore_n 1, 1) := by decide +kernel
theorem dX9_dones_33 : decode cX9_dones 33 = .ok (.iinc 2 1, 3) := by decide +kernel
theorem dX9_dones_36 : decode cX9_dones 36 = .ok (.goto (-32), 3) := by decide +kernel
theorem dX9_dones_39 : decode cX9_dones 39 = .ok (.iload_n 1, 1) := by decide +kernel
theorem dX9_dones_40 : decode cX9_dones 40 = .ok (.ireturn, 1) := by decide +kernel
theorem dX9_halves_0 : decode cX9_halves 0 = .ok (.iconst 0, 1) := by decide +kernel
theorem dX9_halves_1 : decode cX9_halves 1 = .ok (.istore_n 1, 1) := by decide +kernel
theorem dX9_halves_2 : decode cX9_halves 2 = .ok (.iconst 0, 1) := by decide +kernel
theorem dX9_halves_3 : decode cX9_halves 3 = .ok (.istore_n 2, 1) := by decide +kernel
theorem dX9_halves_4 : decode cX9_halves 4 = .ok (.iload_n 2, 1) := by decide +kernel
theorem dX9_halves_5 : decode cX9_halves 5 = .ok (.aload_n 0, 1) := by decide +kernel
theorem dX9_halves_6 : decode cX9_halves 6 = .ok (.getfield 9, 3) := by decide +kernel
theorem dX9_halves_9 : decode cX9_halves 9 = .ok (.bipush 92, 2) := by decide +kernel
theorem dX9_halves_11 : decode cX9_halves 11 = .ok (.iaload, 1) := by decide +kernel
theorem dX9_halves_12 : decode cX9_halves 12 = .ok (.if_icmp .ge 21, 3) := by decide +kernel
theorem dX9_halves_15 : decode cX9_halves 15 = .ok (.iload_n 1, 1) := by decide +kernel
theorem dX9_halves_16 : decode cX9_halves 16 = .ok (.aload_n 0, 1) := by decide +kernel
theorem dX9_halves_17 : decode cX9_halves 17 = .ok (.iload_n 2, 1) := by decide +kernel
theorem dX9_halves_18 : decode cX9_halves 18 = .ok (.iconst 5, 1) := by decide +kernel
theorem dX9_halves_19 : decode cX9_halves 19 = .ok (.invokevirtual 102, 3) := by decide +kernel
theorem dX9_halves_22 : decode cX9_halves 22 = .ok (.invokestatic 202, 3) := by decide +kernel
theorem dX9_halves_25 : decode cX9_halves 25 = .ok (.iadd, 1) := by decide +kernel
theorem dX9_halves_26 : decode cX9_halves 26 = .ok (.istore_n 1, 1) := by decide +kernel
theorem dX9_halves_27 : decode cX9_halves 27 = .ok (.iinc 2 1, 3) := by decide +kernel
theorem dX9_halves_30 : decode cX9_halves 30 = .ok (.goto (-26), 3) := by decide +kernel
theorem dX9_halves_33 : decode cX9_halves 33 = .ok (.iload_n 1, 1) := by decide +kernel
theorem dX9_halves_34 : decode cX9_halves 34 = .ok (.ireturn, 1) := by decide +kernel
theorem dX9_done_0 : decode cX9_done 0 = .ok (.aload_n 0, 1) := by decide +kernel
theorem dX9_done_1 : decode cX9_done 1 = .ok (.getfield 9, 3) := by decide +kernel
theorem dX9_done_4 : decode cX9_done 4 = .ok (.aload_n 0, 1) := by decide +kernel
theorem dX9_done_5 : decode cX9_done 5 = .ok (.getfield 15, 3) := by decide +kernel
theorem dX9_done_8 : decode cX9_done 8 = .ok (.invokestatic 94, 3) := by decide +kernel
theorem dX9_done_11 : decode cX9_done 11 = .ok (.bipush (-5), 2) := by decide +kernel
theorem dX9_done_13 : decode cX9_done 13 = .ok (.istore_n 2, 1) := by decide +kernel
theorem dX9_done_14 : decode cX9_done 14 = .ok (.iconst 0, 1) := by decide +kernel
theorem dX9_done_15 : decode cX9_done 15 = .ok (.istore_n 3, 1) := by decide +kernel
theorem dX9_done_16 : decode cX9_done 16 = .ok (.iload_n 3, 1) := by decide +kernel
theorem dX9_done_17 : decode cX9_done 17 = .ok (.bipush 20, 2) := by decide +kernel
theorem dX9_done_19 : decode cX9_done 19 = .ok (.if_icmp .gt 34, 3) := by decide +kernel
theorem dX9_done_22 : decode cX9_done 22 = .ok (.iload_n 2, 1) := by decide +kernel
theorem dX9_done_23 : decode cX9_done 23 = .ok (.bipush (-5), 2) := by decide +kernel
theorem dX9_done_25 : decode cX9_done 25 = .ok (.if_icmp .ne 28, 3) := by decide +kernel
theorem dX9_done_28 : decode cX9_done 28 = .ok (.aload_n 0, 1) := by decide +kernel
theorem dX9_done_29 : decode cX9_done 29 = .ok (.iload_n 1, 1) := by decide +kernel
theorem dX9_done_30 : decode cX9_done 30 = .ok (.invokevirtual 245, 3) := by decide +kernel
theorem dX9_done_33 : decode cX9_done 33 = .ok (.ifCond .eq 7, 3) := by decide +kernel
theorem dX9_done_36 : decode cX9_done 36 = .ok (.iload_n 3, 1) := by decide +kernel
theorem dX9_done_37 : decode cX9_done 37 = .ok (.goto 5, 3) := by decide +kernel
theorem dX9_done_40 : decode cX9_done 40 = .ok (.bipush (-5), 2) := by decide +kernel
theorem dX9_done_42 : decode cX9_done 42 = .ok (.istore_n 2, 1) := by decide +kernel
theorem dX9_done_43 : decode cX9_done 43 = .ok (.aload_n 0, 1) := by decide +kernel
theorem dX9_done_44 : decode cX9_done 44 = .ok (.invokevirtual 242, 3) := by decide +kernel
theorem dX9_done_47 : decode cX9_done 47 = .ok (.iinc 3 1, 3) := by decide +kernel
theorem dX9_done_50 : decode cX9_done 50 = .ok (.goto (-34), 3) := by decide +kernel
theorem dX9_done_53 : decode cX9_done 53 = .ok (.aload_n 0, 1) := by decide +kernel
theorem dX9_done_54 : decode cX9_done 54 = .ok (.getfield 15, 3) := by decide +kernel
theorem dX9_done_57 : decode cX9_done 57 = .ok (.aload_n 0, 1) := by decide +kernel
theorem dX9_done_58 : decode cX9_done 58 = .ok (.getfield 9, 3) := by decide +kernel
theorem dX9_done_61 : decode cX9_done 61 = .ok (.invokestatic 94, 3) := by decide +kernel
theorem dX9_done_64 : decode cX9_done 64 = .ok (.iload_n 2, 1) := by decide +kernel
theorem dX9_done_65 : decode cX9_done 65 = .ok (.ireturn, 1) := by decide +kernel
theorem dX9_told_0 : decode cX9_told 0 = .ok (.iconst 0, 1) := by decide +kernel
theorem dX9_told_1 : decode cX9_told 1 = .ok (.istore_n 2, 1) := by decide +kernel
theorem dX9_told_2 : decode cX9_told 2 = .ok (.iload_n 1, 1) := by decide +kernel
theorem dX9_told_3 : decode cX9_told 3 = .ok (.tableswitch 101 0 4 #[33, 41, 52, 57, 62], 33) := by decide +kernel
theorem dX9_told_36 : decode cX9_told 36 = .ok (.aload_n 0, 1) := by decide +kernel
theorem dX9_told_37 : decode cX9_told 37 = .ok (.getfield 9, 3) := by decide +kernel
theorem dX9_told_40 : decode cX9_told 40 = .ok (.bipush 94, 2) := by decide +kernel
theorem dX9_told_42 : decode cX9_told 42 = .ok (.iaload, 1) := by decide +kernel
theorem dX9_told_43 : decode cX9_told 43 = .ok (.ireturn, 1) := by decide +kernel
theorem dX9_told_44 : decode cX9_told 44 = .ok (.aload_n 0, 1) := by decide +kernel
theorem dX9_told_45 : decode cX9_told 45 = .ok (.iconst 0, 1) := by decide +kernel
theorem dX9_told_46 : decode cX9_told 46 = .ok (.iconst 0, 1) := by decide +kernel
theorem dX9_told_47 : decode cX9_told 47 = .ok (.invokevirtual 211, 3) := by decide +kernel
theorem dX9_told_50 : decode cX9_told 50 = .ok (.aload_n 0, 1) := by decide +kernel
theorem dX9_told_51 : decode cX9_told 51 = .ok (.getfield 193, 3) := by decide +kernel
theorem dX9_told_54 : decode cX9_told 54 = .ok (.ireturn, 1) := by decide +kernel
theorem dX9_told_55 : decode cX9_told 55 = .ok (.aload_n 0, 1) := by decide +kernel
theorem dX9_told_56 : decode cX9_told 56 = .ok (.invokevirtual 248, 3) := by decide +kernel
theorem dX9_told_59 : decode cX9_told 59 = .ok (.ireturn, 1) := by decide +kernel
theorem dX9_told_60 : decode cX9_told 60 = .ok (.aload_n 0, 1) := by decide +kernel
theorem dX9_told_61 : decode cX9_told 61 = .ok (.invokevirtual 251, 3) := by decide +kernel
theorem dX9_told_64 : decode cX9_told 64 = .ok (.ireturn, 1) := by decide +kernel
theorem dX9_told_65 : decode cX9_told 65 = .ok (.iconst 0, 1) := by decide +kernel
theorem dX9_told_66 : decode cX9_told 66 = .ok (.istore_n 3, 1) := by decide +kernel
theorem dX9_told_67 : decode cX9_told 67 = .ok (.iload_n 3, 1) := by decide +kernel
theorem dX9_told_68 : decode cX9_told 68 = .ok (.aload_n 0, 1) := by decide +kernel
theorem dX9_told_69 : decode cX9_told 69 = .ok (.getfield 9, 3) := by decide +kernel
theorem dX9_told_72 : decode cX9_told 72 = .ok (.bipush 93, 2) := by decide +kernel
theorem dX9_told_74 : decode cX9_told 74 = .ok (.iaload, 1) := by decide +kernel
theorem dX9_told_75 : decode cX9_told 75 = .ok (.if_icmp .ge 27, 3) := by decide +kernel
theorem dX9_told_78 : decode cX9_told 78 = .ok (.iload_n 2, 1) := by decide +kernel
theorem dX9_told_79 : decode cX9_told 79 = .ok (.aload_n 0, 1) := by decide +kernel
theorem dX9_told_80 : decode cX9_told 80 = .ok (.iload_n 3, 1) := by decide +kernel
theorem dX9_told_81 : decode cX9_told 81 = .ok (.invokevirtual 214, 3) := by decide +kernel
theorem dX9_told_84 : decode cX9_told 84 = .ok (.ifCond .eq 9, 3) := by decide +kernel
theorem dX9_told_87 : decode cX9_told 87 = .ok (.iconst 1, 1) := by decide +kernel
theorem dX9_told_88 : decode cX9_told 88 = .ok (.iload_n 3, 1) := by decide +kernel
theorem dX9_told_89 : decode cX9_told 89 = .ok (.ishl, 1) := by decide +kernel
theorem dX9_told_90 : decode cX9_told 90 = .ok (.goto 4, 3) := by decide +kernel
theorem dX9_told_93 : decode cX9_told 93 = .ok (.iconst 0, 1) := by decide +kernel
theorem dX9_told_94 : decode cX9_told 94 = .ok (.ior, 1) := by decide +kernel
theorem dX9_told_95 : decode cX9_told 95 = .ok (.istore_n 2, 1) := by decide +kernel
theorem dX9_told_96 : decode cX9_told 96 = .ok (.iinc 3 1, 3) := by decide +kernel
theorem dX9_told_99 : decode cX9_told 99 = .ok (.goto (-32), 3) := by decide +kernel
theorem dX9_told_102 : decode cX9_told 102 = .ok (.iload_n 2, 1) := by decide +kernel
theorem dX9_told_103 : decode cX9_told 103 = .ok (.ireturn, 1) := by decide +kernel
theorem dX9_told_104 : decode cX9_told 104 = .ok (.iconst (-1), 1) := by decide +kernel
theorem dX9_told_105 : decode cX9_told 105 = .ok (.ireturn, 1) := by decide +kernel
theorem dX9_pass_0 : decode cX9_pass 0 = .ok (.iload_n 1, 1) := by decide +kernel
theorem dX9_pass_1 : decode cX9_pass 1 = .ok (.iconst 0, 1) := by decide +kernel
theorem dX9_pass_2 : decode cX9_pass 2 = .ok (.bipush 12, 2) := by decide +kernel
theorem dX9_pass_4 : decode cX9_pass 4 = .ok (.invokestatic 98, 3) := by decide +kernel
theorem dX9_pass_7 : decode cX9_pass 7 = .ok (.ifCond .ne 6, 3) := by decide +kernel
theorem dX9_pass_10 : decode cX9_pass 10 = .ok (.bipush (-2), 2) := by decide +kernel
theorem dX9_pass_12 : decode cX9_pass 12 = .ok (.ireturn, 1) := by decide +kernel
theorem dX9_pass_13 : decode cX9_pass 13 = .ok (.aload_n 0, 1) := by decide +kernel
theorem dX9_pass_14 : decode cX9_pass 14 = .ok (.getfield 9, 3) := by decide +kernel
theorem dX9_pass_17 : decode cX9_pass 17 = .ok (.bipush 94, 2) := by decide +kernel
theorem dX9_pass_19 : decode cX9_pass 19 = .ok (.iaload, 1) := by decide +kernel
theorem dX9_pass_20 : decode cX9_pass 20 = .ok (.iload_n 1, 1) := by decide +kernel
theorem dX9_pass_21 : decode cX9_pass 21 = .ok (.iadd, 1) := by decide +kernel
theorem dX9_pass_22 : decode cX9_pass 22 = .ok (.sipush 9999, 3) := by decide +kernel
theorem dX9_pass_25 : decode cX9_pass 25 = .ok (.if_icmp .le 6, 3) := by decide +kernel
theorem dX9_pass_28 : decode cX9_pass 28 = .ok (.bipush (-3), 2) := by decide +kernel
theorem dX9_pass_30 : decode cX9_pass 30 = .ok (.ireturn, 1) := by decide +kernel
theorem dX9_pass_31 : decode cX9_pass 31 = .ok (.aload_n 0, 1) := by decide +kernel
theorem dX9_pass_32 : decode cX9_pass 32 = .ok (.iload_n 1, 1) := by decide +kernel
theorem dX9_pass_33 : decode cX9_pass 33 = .ok (.invokevirtual 254, 3) := by decide +kernel
theorem dX9_pass_36 : decode cX9_pass 36 = .ok (.aload_n 0, 1) := by decide +kernel
theorem dX9_pass_37 : decode cX9_pass 37 = .ok (.getfield 9, 3) := by decide +kernel
theorem dX9_pass_40 : decode cX9_pass 40 = .ok (.bipush 94, 2) := by decide +kernel
theorem dX9_pass_42 : decode cX9_pass 42 = .ok (.iaload, 1) := by decide +kernel
theorem dX9_pass_43 : decode cX9_pass 43 = .ok (.ireturn, 1) := by decide +kernel
theorem dX9_on_0 : decode cX9_on 0 = .ok (.iload_n 2, 1) := by decide +kernel
theorem dX9_on_1 : decode cX9_on 1 = .ok (.ifCond .eq 38, 3) := by decide +kernel
theorem dX9_on_4 : decode cX9_on 4 = .ok (.aload_n 0, 1) := by decide +kernel
theorem dX9_on_5 : decode cX9_on 5 = .ok (.iload_n 2, 1) := by decide +kernel
theorem dX9_on_6 : decode cX9_on 6 = .ok (.bipush 10, 2) := by decide +kernel
theorem dX9_on_8 : decode cX9_on 8 = .ok (.isub, 1) := by decide +kernel
theorem dX9_on_9 : decode cX9_on 9 = .ok (.invokevirtual 114, 3) := by decide +kernel
theorem dX9_on_12 : decode cX9_on 12 = .ok (.ifCond .ne 27, 3) := by decide +kernel
theorem dX9_on_15 : decode cX9_on 15 = .ok (.aload_n 0, 1) := by decide +kernel
theorem dX9_on_16 : decode cX9_on 16 = .ok (.iload_n 2, 1) := by decide +kernel
theorem dX9_on_17 : decode cX9_on 17 = .ok (.bipush 20, 2) := by decide +kernel
theorem dX9_on_19 : decode cX9_on 19 = .ok (.isub, 1) := by decide +kernel
theorem dX9_on_20 : decode cX9_on 20 = .ok (.invokevirtual 114, 3) := by decide +kernel
theorem dX9_on_23 : decode cX9_on 23 = .ok (.ifCond .ne 16, 3) := by decide +kernel
theorem dX9_on_26 : decode cX9_on 26 = .ok (.aload_n 0, 1) := by decide +kernel
theorem dX9_on_27 : decode cX9_on 27 = .ok (.iload_n 2, 1) := by decide +kernel
theorem dX9_on_28 : decode cX9_on 28 = .ok (.bipush 30, 2) := by decide +kernel
theorem dX9_on_30 : decode cX9_on 30 = .ok (.isub, 1) := by decide +kernel
theorem dX9_on_31 : decode cX9_on 31 = .ok (.invokevirtual 114, 3) := by decide +kernel
theorem dX9_on_34 : decode cX9_on 34 = .ok (.ifCond .ne 5, 3) := by decide +kernel
theorem dX9_on_37 : decode cX9_on 37 = .ok (.iconst (-1), 1) := by decide +kernel
theorem dX9_on_38 : decode cX9_on 38 = .ok (.ireturn, 1) := by decide +kernel
theorem dX9_on_39 : decode cX9_on 39 = .ok (.iload_n 1, 1) := by decide +kernel
theorem dX9_on_40 : decode cX9_on 40 = .ok (.iconst 0, 1) := by decide +kernel
theorem dX9_on_41 : decode cX9_on 41 = .ok (.bipush 12, 2) := by decide +kernel
theorem dX9_on_43 : decode cX9_on 43 = .ok (.invokestatic 98, 3) := by decide +kernel
theorem dX9_on_46 : decode cX9_on 46 = .ok (.ifCond .ne 6, 3) := by decide +kernel
theorem dX9_on_49 : decode cX9_on 49 = .ok (.bipush (-2), 2) := by decide +kernel
theorem dX9_on_51 : decode cX9_on 51 = .ok (.ireturn, 1) := by decide +kernel
theorem dX9_on_52 : decode cX9_on 52 = .ok (.aload_n 0, 1) := by decide +kernel
theorem dX9_on_53 : decode cX9_on 53 = .ok (.getfield 9, 3) := by decide +kernel
theorem dX9_on_56 : decode cX9_on 56 = .ok (.aload_n 0, 1) := by decide +kernel
theorem dX9_on_57 : decode cX9_on 57 = .ok (.getfield 15, 3) := by decide +kernel
theorem dX9_on_60 : decode cX9_on 60 = .ok (.invokestatic 94, 3) := by decide +kernel
theorem dX9_on_63 : decode cX9_on 63 = .ok (.aload_n 0, 1) := by decide +kernel
theorem dX9_on_64 : decode cX9_on 64 = .ok (.iload_n 1, 1) := by decide +kernel
theorem dX9_on_65 : decode cX9_on 65 = .ok (.invokevirtual 254, 3) := by decide +kernel
theorem dX9_on_68 : decode cX9_on 68 = .ok (.iload_n 2, 1) := by decide +kernel
theorem dX9_on_69 : decode cX9_on 69 = .ok (.ifCond .ne 10, 3) := by decide +kernel
theorem dX9_on_72 : decode cX9_on 72 = .ok (.aload_n 0, 1) := by decide +kernel
theorem dX9_on_73 : decode cX9_on 73 = .ok (.invokevirtual 248, 3) := by decide +kernel
theorem dX9_on_76 : decode cX9_on 76 = .ok (.goto 48, 3) := by decide +kernel
theorem dX9_on_79 : decode cX9_on 79 = .ok (.iload_n 2, 1) := by decide +kernel
theorem dX9_on_80 : decode cX9_on 80 = .ok (.bipush 20, 2) := by decide +kernel
theorem dX9_on_82 : decode cX9_on 82 = .ok (.if_icmp .ge 15, 3) := by decide +kernel
theorem dX9_on_85 : decode cX9_on 85 = .ok (.aload_n 0, 1) := by decide +kernel
theorem dX9_on_86 : decode cX9_on 86 = .ok (.iload_n 2, 1) := by decide +kernel
theorem dX9_on_87 : decode cX9_on 87 = .ok (.bipush 10, 2) := by decide +kernel
theorem dX9_on_89 : decode cX9_on 89 = .ok (.isub, 1) := by decide +kernel
theorem dX9_on_90 : decode cX9_on 90 = .ok (.iconst 2, 1) := by decide +kernel
theorem dX9_on_91 : decode cX9_on 91 = .ok (.invokevirtual 102, 3) := by decide +kernel
theorem dX9_on_94 : decode cX9_on 94 = .ok (.goto 30, 3) := by decide +kernel
theorem dX9_on_97 : decode cX9_on 97 = .ok (.iload_n 2, 1) := by decide +kernel
theorem dX9_on_98 : decode cX9_on 98 = .ok (.bipush 30, 2) := by decide +kernel
theorem dX9_on_100 : decode cX9_on 100 = .ok (.if_icmp .ge 15, 3) := by decide +kernel
theorem dX9_on_103 : decode cX9_on 103 = .ok (.aload_n 0, 1) := by decide +kernel
theorem dX9_on_104 : decode cX9_on 104 = .ok (.iload_n 2, 1) := by decide +kernel
theorem dX9_on_105 : decode cX9_on 105 = .ok (.bipush 20, 2) := by decide +kernel
theorem dX9_on_107 : decode cX9_on 107 = .ok (.isub, 1) := by decide +kernel
theorem dX9_on_108 : decode cX9_on 108 = .ok (.iconst 3, 1) := by decide +kernel
theorem dX9_on_109 : decode cX9_on 109 = .ok (.invokevirtual 102, 3) := by decide +kernel
theorem dX9_on_112 : decode cX9_on 112 = .ok (.goto 12, 3) := by decide +kernel
theorem dX9_on_115 : decode cX9_on 115 = .ok (.aload_n 0, 1) := by decide +kernel
theorem dX9_on_116 : decode cX9_on 116 = .ok (.iload_n 2, 1) := by decide +kernel
theorem dX9_on_117 : decode cX9_on 117 = .ok (.bipush 30, 2) := by decide +kernel
theorem dX9_on_119 : decode cX9_on 119 = .ok (.isub, 1) := by decide +kernel
theorem dX9_on_120 : decode cX9_on 120 = .ok (.iconst 5, 1) := by decide +kernel
theorem dX9_on_121 : decode cX9_on 121 = .ok (.invokevirtual 102, 3) := by decide +kernel
theorem dX9_on_124 : decode cX9_on 124 = .ok (.istore_n 3, 1) := by decide +kernel
theorem dX9_on_125 : decode cX9_on 125 = .ok (.aload_n 0, 1) := by decide +kernel
theorem dX9_on_126 : decode cX9_on 126 = .ok (.getfield 15, 3) := by decide +kernel
theorem dX9_on_129 : decode cX9_on 129 = .ok (.aload_n 0, 1) := by decide +kernel
theorem dX9_on_130 : decode cX9_on 130 = .ok (.getfield 9, 3) := by decide +kernel
theorem dX9_on_133 : decode cX9_on 133 = .ok (.invokestatic 94, 3) := by decide +kernel
theorem dX9_on_136 : decode cX9_on 136 = .ok (.iload_n 3, 1) := by decide +kernel
theorem dX9_on_137 : decode cX9_on 137 = .ok (.ireturn, 1) := by decide +kernel
theorem dX9_way_0 : decode cX9_way 0 = .ok (.aload_n 0, 1) := by decide +kernel
theorem dX9_way_1 : decode cX9_way 1 = .ok (.iload_n 1, 1) := by decide +kernel
theorem dX9_way_2 : decode cX9_way 2 = .ok (.invokevirtual 114, 3) := by decide +kernel
theorem dX9_way_5 : decode cX9_way 5 = .ok (.ifCond .eq 20, 3) := by decide +kernel
theorem dX9_way_8 : decode cX9_way 8 = .ok (.iload_n 2, 1) := by decide +kernel
theorem dX9_way_9 : decode cX9_way 9 = .ok (.invokestatic 106, 3) := by decide +kernel
theorem dX9_way_12 : decode cX9_way 12 = .ok (.ifCond .eq 13, 3) := by decide +kernel
theorem dX9_way_15 : decode cX9_way 15 = .ok (.iload_n 3, 1) := by decide +kernel
theorem dX9_way_16 : decode cX9_way 16 = .ok (.iconst (-1), 1) := by decide +kernel
theorem dX9_way_17 : decode cX9_way 17 = .ok (.bipush 11, 2) := by decide +kernel
theorem dX9_way_19 : decode cX9_way 19 = .ok (.invokestatic 98, 3) := by decide +kernel
theorem dX9_way_22 : decode cX9_way 22 = .ok (.ifCond .ne 5, 3) := by decide +kernel
theorem dX9_way_25 : decode cX9_way 25 = .ok (.iconst (-1), 1) := by decide +kernel
theorem dX9_way_26 : decode cX9_way 26 = .ok (.ireturn, 1) := by decide +kernel
theorem dX9_way_27 : decode cX9_way 27 = .ok (.aload_n 0, 1) := by decide +kernel
theorem dX9_way_28 : decode cX9_way 28 = .ok (.iload_n 1, 1) := by decide +kernel
theorem dX9_way_29 : decode cX9_way 29 = .ok (.iload_n 2, 1) := by decide +kernel
theorem dX9_way_30 : decode cX9_way 30 = .ok (.invokevirtual 239, 3) := by decide +kernel
theorem dX9_way_33 : decode cX9_way 33 = .ok (.istore 4, 2) := by decide +kernel
theorem dX9_way_35 : decode cX9_way 35 = .ok (.iload_n 3, 1) := by decide +kernel
theorem dX9_way_36 : decode cX9_way 36 = .ok (.iconst (-1), 1) := by decide +kernel
theorem dX9_way_37 : decode cX9_way 37 = .ok (.if_icmp .ne 8, 3) := by decide +kernel
theorem dX9_way_40 : decode cX9_way 40 = .ok (.iload 4, 2) := by decide +kernel
theorem dX9_way_42 : decode cX9_way 42 = .ok (.goto 20, 3) := by decide +kernel
theorem dX9_way_45 : decode cX9_way 45 = .ok (.iload_n 3, 1) := by decide +kernel
theorem dX9_way_46 : decode cX9_way 46 = .ok (.iload 4, 2) := by decide +kernel
theorem dX9_way_48 : decode cX9_way 48 = .ok (.if_icmp .ge 12, 3) := by decide +kernel
theorem dX9_way_51 : decode cX9_way 51 = .ok (.aload_n 0, 1) := by decide +kernel
theorem dX9_way_52 : decode cX9_way 52 = .ok (.getfield 65, 3) := by decide +kernel
theorem dX9_way_55 : decode cX9_way 55 = .ok (.iload_n 3, 1) := by decide +kernel
theorem dX9_way_56 : decode cX9_way 56 = .ok (.iaload, 1) := by decide +kernel
theorem dX9_way_57 : decode cX9_way 57 = .ok (.goto 5, 3) := by decide +kernel
theorem dX9_way_60 : decode cX9_way 60 = .ok (.bipush (-5), 2) := by decide +kernel
theorem dX9_way_62 : decode cX9_way 62 = .ok (.ireturn, 1) := by decide +kernel
theorem dX9_late_0 : decode cX9_late 0 = .ok (.iload_n 0, 1) := by decide +kernel
theorem dX9_late_1 : decode cX9_late 1 = .ok (.bipush (-5), 2) := by decide +kernel
theorem dX9_late_3 : decode cX9_late 3 = .ok (.if_icmp .ne 9, 3) := by decide +kernel
theorem dX9_late_6 : decode cX9_late 6 = .ok (.sipush 1000, 3) := by decide +kernel
theorem dX9_late_9 : decode cX9_late 9 = .ok (.goto 4, 3) := by decide +kernel
theorem dX9_late_12 : decode cX9_late 12 = .ok (.iload_n 0, 1) := by decide +kernel
theorem dX9_late_13 : decode cX9_late 13 = .ok (.ireturn, 1) := by decide +kernel
theorem dX9_sisters_0 : decode cX9_sisters 0 = .ok (.aload_n 0, 1) := by decide +kernel
theorem dX9_sisters_1 : decode cX9_sisters 1 = .ok (.iload_n 1, 1) := by decide +kernel
theorem dX9_sisters_2 : decode cX9_sisters 2 = .ok (.invokevirtual 114, 3) := by decide +kernel
theorem dX9_sisters_5 : decode cX9_sisters 5 = .ok (.ifCond .eq 10, 3) := by decide +kernel
theorem dX9_sisters_8 : decode cX9_sisters 8 = .ok (.iload_n 2, 1) := by decide +kernel
theorem dX9_sisters_9 : decode cX9_sisters 9 = .ok (.invokestatic 106, 3) := by decide +kernel
theorem dX9_sisters_12 : decode cX9_sisters 12 = .ok (.ifCond .ne 5, 3) := by decide +kernel
theorem dX9_sisters_15 : decode cX9_sisters 15 = .ok (.iconst (-1), 1) := by decide +kernel
theorem dX9_sisters_16 : decode cX9_sisters 16 = .ok (.ireturn, 1) := by decide +kernel
theorem dX9_sisters_17 : decode cX9_sisters 17 = .ok (.aload_n 0, 1) := by decide +kernel
theorem dX9_sisters_18 : decode cX9_sisters 18 = .ok (.iload_n 1, 1) := by decide +kernel
theorem dX9_sisters_19 : decode cX9_sisters 19 = .ok (.iload_n 2, 1) := by decide +kernel
theorem dX9_sisters_20 : decode cX9_sisters 20 = .ok (.invokevirtual 239, 3) := by decide +kernel
theorem dX9_sisters_23 : decode cX9_sisters 23 = .ok (.invokestatic 257, 3) := by decide +kernel
theorem dX9_sisters_26 : decode cX9_sisters 26 = .ok (.istore_n 3, 1) := by decide +kernel
theorem dX9_sisters_27 : decode cX9_sisters 27 = .ok (.bipush (-5), 2) := by decide +kernel
theorem dX9_sisters_29 : decode cX9_sisters 29 = .ok (.istore 4, 2) := by decide +kernel
theorem dX9_sisters_31 : decode cX9_sisters 31 = .ok (.iconst 0, 1) := by decide +kernel
theorem dX9_sisters_32 : decode cX9_sisters 32 = .ok (.istore 5, 2) := by decide +kernel
theorem dX9_sisters_34 : decode cX9_sisters 34 = .ok (.iload 5, 2) := by decide +kernel
theorem dX9_sisters_36 : decode cX9_sisters 36 = .ok (.aload_n 0, 1) := by decide +kernel
theorem dX9_sisters_37 : decode cX9_sisters 37 = .ok (.getfield 9, 3) := by decide +kernel
theorem dX9_sisters_40 : decode cX9_sisters 40 = .ok (.bipush 93, 2) := by decide +kernel
theorem dX9_sisters_42 : decode cX9_sisters 42 = .ok (.iaload, 1) := by decide +kernel
theorem dX9_sisters_43 : decode cX9_sisters 43 = .ok (.if_icmp .ge 99, 3) := by decide +kernel
theorem dX9_sisters_46 : decode cX9_sisters 46 = .ok (.iload 5, 2) := by decide +kernel
theorem dX9_sisters_48 : decode cX9_sisters 48 = .ok (.iconst 1, 1) := by decide +kernel
theorem dX9_sisters_49 : decode cX9_sisters 49 = .ok (.iadd, 1) := by decide +kernel
theorem dX9_sisters_50 : decode cX9_sisters 50 = .ok (.istore 6, 2) := by decide +kernel
theorem dX9_sisters_52 : decode cX9_sisters 52 = .ok (.iload 6, 2) := by decide +kernel
theorem dX9_sisters_54 : decode cX9_sisters 54 = .ok (.aload_n 0, 1) := by decide +kernel
theorem dX9_sisters_55 : decode cX9_sisters 55 = .ok (.getfield 9, 3) := by decide +kernel
theorem dX9_sisters_58 : decode cX9_sisters 58 = .ok (.bipush 93, 2) := by decide +kernel
theorem dX9_sisters_60 : decode cX9_sisters 60 = .ok (.iaload, 1) := by decide +kernel
theorem dX9_sisters_61 : decode cX9_sisters 61 = .ok (.if_icmp .ge 75, 3) := by decide +kernel
theorem dX9_sisters_64 : decode cX9_sisters 64 = .ok (.aload_n 0, 1) := by decide +kernel
theorem dX9_sisters_65 : decode cX9_sisters 65 = .ok (.iload 5, 2) := by decide +kernel
theorem dX9_sisters_67 : decode cX9_sisters 67 = .ok (.iload 6, 2) := by decide +kernel
theorem dX9_sisters_69 : decode cX9_sisters 69 = .ok (.invokevirtual 143, 3) := by decide +kernel
theorem dX9_sisters_72 : decode cX9_sisters 72 = .ok (.ifCond .eq 58, 3) := by decide +kernel
theorem dX9_sisters_75 : decode cX9_sisters 75 = .ok (.aload_n 0, 1) := by decide +kernel
theorem dX9_sisters_76 : decode cX9_sisters 76 = .ok (.iload 5, 2) := by decide +kernel
theorem dX9_sisters_78 : decode cX9_sisters 78 = .ok (.iload 6, 2) := by decide +kernel
theorem dX9_sisters_80 : decode cX9_sisters 80 = .ok (.invokevirtual 147, 3) := by decide +kernel
theorem dX9_sisters_83 : decode cX9_sisters 83 = .ok (.aload_n 0, 1) := by decide +kernel
theorem dX9_sisters_84 : decode cX9_sisters 84 = .ok (.iload_n 1, 1) := by decide +kernel
theorem dX9_sisters_85 : decode cX9_sisters 85 = .ok (.iload_n 2, 1) := by decide +kernel
theorem dX9_sisters_86 : decode cX9_sisters 86 = .ok (.invokevirtual 239, 3) := by decide +kernel
theorem dX9_sisters_89 : decode cX9_sisters 89 = .ok (.invokestatic 257, 3) := by decide +kernel
theorem dX9_sisters_92 : decode cX9_sisters 92 = .ok (.istore 7, 2) := by decide +kernel
theorem dX9_sisters_94 : decode cX9_sisters 94 = .ok (.aload_n 0, 1) := by decide +kernel
theorem dX9_sisters_95 : decode cX9_sisters 95 = .ok (.iload 5, 2) := by decide +kernel
theorem dX9_sisters_97 : decode cX9_sisters 97 = .ok (.iload 6, 2) := by decide +kernel
theorem dX9_sisters_99 : decode cX9_sisters 99 = .ok (.invokevirtual 147, 3) := by decide +kernel
theorem dX9_sisters_102 : decode cX9_sisters 102 = .ok (.iload 7, 2) := by decide +kernel
theorem dX9_sisters_104 : decode cX9_sisters 104 = .ok (.iload_n 3, 1) := by decide +kernel
theorem dX9_sisters_105 : decode cX9_sisters 105 = .ok (.if_icmp .ge 14, 3) := by decide +kernel
theorem dX9_sisters_108 : decode cX9_sisters 108 = .ok (.bipush 10, 2) := by decide +kernel
theorem dX9_sisters_110 : decode cX9_sisters 110 = .ok (.iload 5, 2) := by decide +kernel
theorem dX9_sisters_112 : decode cX9_sisters 112 = .ok (.imul, 1) := by decide +kernel
theorem dX9_sisters_113 : decode cX9_sisters 113 = .ok (.iload 6, 2) := by decide +kernel
theorem dX9_sisters_115 : decode cX9_sisters 115 = .ok (.iadd, 1) := by decide +kernel
theorem dX9_sisters_116 : decode cX9_sisters 116 = .ok (.goto 5, 3) := by decide +kernel
theorem dX9_sisters_119 : decode cX9_sisters 119 = .ok (.iload 4, 2) := by decide +kernel
theorem dX9_sisters_121 : decode cX9_sisters 121 = .ok (.istore 4, 2) := by decide +kernel
theorem dX9_sisters_123 : decode cX9_sisters 123 = .ok (.iload 7, 2) := by decide +kernel
theorem dX9_sisters_125 : decode cX9_sisters 125 = .ok (.iload_n 3, 1) := by decide +kernel
theorem dX9_sisters_126 : decode cX9_sisters 126 = .ok (.invokestatic 260, 3) := by decide +kernel
theorem dX9_sisters_129 : decode cX9_sisters 129 = .ok (.istore_n 3, 1) := by decide +kernel
theorem dX9_sisters_130 : decode cX9_sisters 130 = .ok (.iinc 6 1, 3) := by decide +kernel
theorem dX9_sisters_133 : decode cX9_sisters 133 = .ok (.goto (-81), 3) := by decide +kernel
theorem dX9_sisters_136 : decode cX9_sisters 136 = .ok (.iinc 5 1, 3) := by decide +kernel
theorem dX9_sisters_139 : decode cX9_sisters 139 = .ok (.goto (-105), 3) := by decide +kernel
theorem dX9_sisters_142 : decode cX9_sisters 142 = .ok (.iload 4, 2) := by decide +kernel
theorem dX9_sisters_144 : decode cX9_sisters 144 = .ok (.ireturn, 1) := by decide +kernel
theorem dX9_see_0 : decode cX9_see 0 = .ok (.iload_n 1, 1) := by decide +kernel
theorem dX9_see_1 : decode cX9_see 1 = .ok (.iconst (-1), 1) := by decide +kernel
theorem dX9_see_2 : decode cX9_see 2 = .ok (.if_icmp .ne 13, 3) := by decide +kernel
theorem dX9_see_5 : decode cX9_see 5 = .ok (.aload_n 0, 1) := by decide +kernel
theorem dX9_see_6 : decode cX9_see 6 = .ok (.getfield 9, 3) := by decide +kernel
theorem dX9_see_9 : decode cX9_see 9 = .ok (.bipush 96, 2) := by decide +kernel
theorem dX9_see_11 : decode cX9_see 11 = .ok (.iconst 0, 1) := by decide +kernel
theorem dX9_see_12 : decode cX9_see 12 = .ok (.iastore, 1) := by decide +kernel
theorem dX9_see_13 : decode cX9_see 13 = .ok (.iconst 0, 1) := by decide +kernel
theorem dX9_see_14 : decode cX9_see 14 = .ok (.ireturn, 1) := by decide +kernel
theorem dX9_see_15 : decode cX9_see 15 = .ok (.aload_n 0, 1) := by decide +kernel
theorem dX9_see_16 : decode cX9_see 16 = .ok (.iload_n 1, 1) := by decide +kernel
theorem dX9_see_17 : decode cX9_see 17 = .ok (.invokevirtual 114, 3) := by decide +kernel
theorem dX9_see_20 : decode cX9_see 20 = .ok (.ifCond .eq 10, 3) := by decide +kernel
theorem dX9_see_23 : decode cX9_see 23 = .ok (.iload_n 3, 1) := by decide +kernel
theorem dX9_see_24 : decode cX9_see 24 = .ok (.invokestatic 106, 3) := by decide +kernel
theorem dX9_see_27 : decode cX9_see 27 = .ok (.ifCond .ne 5, 3) := by decide +kernel
theorem dX9_see_30 : decode cX9_see 30 = .ok (.iconst (-1), 1) := by decide +kernel
theorem dX9_see_31 : decode cX9_see 31 = .ok (.ireturn, 1) := by decide +kernel
theorem dX9_see_32 : decode cX9_see 32 = .ok (.iload_n 2, 1) := by decide +kernel
theorem dX9_see_33 : decode cX9_see 33 = .ok (.iconst 0, 1) := by decide +kernel
theorem dX9_see_34 : decode cX9_see 34 = .ok (.bipush 8, 2) := by decide +kernel
theorem dX9_see_36 : decode cX9_see 36 = .ok (.invokestatic 98, 3) := by decide +kernel
theorem dX9_see_39 : decode cX9_see 39 = .ok (.ifCond .ne 6, 3) := by decide +kernel
theorem dX9_see_42 : decode cX9_see 42 = .ok (.bipush (-2), 2) := by decide +kernel
theorem dX9_see_44 : decode cX9_see 44 = .ok (.ireturn, 1) := by decide +kernel
theorem dX9_see_45 : decode cX9_see 45 = .ok (.aload_n 0, 1) := by decide +kernel
theorem dX9_see_46 : decode cX9_see 46 = .ok (.getfield 9, 3) := by decide +kernel
theorem dX9_see_49 : decode cX9_see 49 = .ok (.bipush 96, 2) := by decide +kernel
theorem dX9_see_51 : decode cX9_see 51 = .ok (.iaload, 1) := by decide +kernel
theorem dX9_see_52 : decode cX9_see 52 = .ok (.iconst 5, 1) := by decide +kernel
theorem dX9_see_53 : decode cX9_see 53 = .ok (.if_icmp .ne 6, 3) := by decide +kernel
theorem dX9_see_56 : decode cX9_see 56 = .ok (.bipush (-4), 2) := by decide +kernel
theorem dX9_see_58 : decode cX9_see 58 = .ok (.ireturn, 1) := by decide +kernel
theorem dX9_see_59 : decode cX9_see 59 = .ok (.bipush 97, 2) := by decide +kernel
theorem dX9_see_61 : decode cX9_see 61 = .ok (.iconst 3, 1) := by decide +kernel
theorem dX9_see_62 : decode cX9_see 62 = .ok (.aload_n 0, 1) := by decide +kernel
theorem dX9_see_63 : decode cX9_see 63 = .ok (.getfield 9, 3) := by decide +kernel
theorem dX9_see_66 : decode cX9_see 66 = .ok (.bipush 96, 2) := by decide +kernel
theorem dX9_see_68 : decode cX9_see 68 = .ok (.iaload, 1) := by decide +kernel
theorem dX9_see_69 : decode cX9_see 69 = .ok (.imul, 1) := by decide +kernel
theorem dX9_see_70 : decode cX9_see 70 = .ok (.iadd, 1) := by decide +kernel
theorem dX9_see_71 : decode cX9_see 71 = .ok (.istore 4, 2) := by decide +kernel
theorem dX9_see_73 : decode cX9_see 73 = .ok (.aload_n 0, 1) := by decide +kernel
theorem dX9_see_74 : decode cX9_see 74 = .ok (.getfield 9, 3) := by decide +kernel
theorem dX9_see_77 : decode cX9_see 77 = .ok (.iload 4, 2) := by decide +kernel
theorem dX9_see_79 : decode cX9_see 79 = .ok (.iload_n 1, 1) := by decide +kernel
theorem dX9_see_80 : decode cX9_see 80 = .ok (.iastore, 1) := by decide +kernel
theorem dX9_see_81 : decode cX9_see 81 = .ok (.aload_n 0, 1) := by decide +kernel
theorem dX9_see_82 : decode cX9_see 82 = .ok (.getfield 9, 3) := by decide +kernel
theorem dX9_see_85 : decode cX9_see 85 = .ok (.iload 4, 2) := by decide +kernel
theorem dX9_see_87 : decode cX9_see 87 = .ok (.iconst 1, 1) := by decide +kernel
theorem dX9_see_88 : decode cX9_see 88 = .ok (.iadd, 1) := by decide +kernel
theorem dX9_see_89 : decode cX9_see 89 = .ok (.iload_n 2, 1) := by decide +kernel
theorem dX9_see_90 : decode cX9_see 90 = .ok (.iastore, 1) := by decide +kernel
theorem dX9_see_91 : decode cX9_see 91 = .ok (.aload_n 0, 1) := by decide +kernel
theorem dX9_see_92 : decode cX9_see 92 = .ok (.getfield 9, 3) := by decide +kernel
theorem dX9_see_95 : decode cX9_see 95 = .ok (.iload 4, 2) := by decide +kernel
theorem dX9_see_97 : decode cX9_see 97 = .ok (.iconst 2, 1) := by decide +kernel
theorem dX9_see_98 : decode cX9_see 98 = .ok (.iadd, 1) := by decide +kernel
theorem dX9_see_99 : decode cX9_see 99 = .ok (.iload_n 3, 1) := by decide +kernel
theorem dX9_see_100 : decode cX9_see 100 = .ok (.iastore, 1) := by decide +kernel
theorem dX9_see_101 : decode cX9_see 101 = .ok (.aload_n 0, 1) := by decide +kernel
theorem dX9_see_102 : decode cX9_see 102 = .ok (.getfield 9, 3) := by decide +kernel
theorem dX9_see_105 : decode cX9_see 105 = .ok (.bipush 96, 2) := by decide +kernel
theorem dX9_see_107 : decode cX9_see 107 = .ok (.dup2, 1) := by decide +kernel
theorem dX9_see_108 : decode cX9_see 108 = .ok (.iaload, 1) := by decide +kernel
theorem dX9_see_109 : decode cX9_see 109 = .ok (.iconst 1, 1) := by decide +kernel
theorem dX9_see_110 : decode cX9_see 110 = .ok (.iadd, 1) := by decide +kernel
theorem dX9_see_111 : decode cX9_see 111 = .ok (.iastore, 1) := by decide +kernel
theorem dX9_see_112 : decode cX9_see 112 = .ok (.aload_n 0, 1) := by decide +kernel
theorem dX9_see_113 : decode cX9_see 113 = .ok (.getfield 9, 3) := by decide +kernel
theorem dX9_see_116 : decode cX9_see 116 = .ok (.bipush 96, 2) := by decide +kernel
theorem dX9_see_118 : decode cX9_see 118 = .ok (.iaload, 1) := by decide +kernel
theorem dX9_see_119 : decode cX9_see 119 = .ok (.ireturn, 1) := by decide +kernel
theorem dX9_isAllSeen_0 : decode cX9_isAllSeen 0 = .ok (.aload_n 0, 1) := by decide +kernel
theorem dX9_isAllSeen_1 : decode cX9_isAllSeen 1 = .ok (.getfield 9, 3) := by decide +kernel
theorem dX9_isAllSeen_4 : decode cX9_isAllSeen 4 = .ok (.aload_n 0, 1) := by decide +kernel
theorem dX9_isAllSeen_5 : decode cX9_isAllSeen 5 = .ok (.getfield 15, 3) := by decide +kernel
theorem dX9_isAllSeen_8 : decode cX9_isAllSeen 8 = .ok (.invokestatic 94, 3) := by decide +kernel
theorem dX9_isAllSeen_11 : decode cX9_isAllSeen 11 = .ok (.iconst 1, 1) := by decide +kernel
theorem dX9_isAllSeen_12 : decode cX9_isAllSeen 12 = .ok (.istore_n 2, 1) := by decide +kernel
theorem dX9_isAllSeen_13 : decode cX9_isAllSeen 13 = .ok (.iconst 0, 1) := by decide +kernel
theorem dX9_isAllSeen_14 : decode cX9_isAllSeen 14 = .ok (.istore_n 3, 1) := by decide +kernel
theorem dX9_isAllSeen_15 : decode cX9_isAllSeen 15 = .ok (.iload_n 3, 1) := by decide +kernel
theorem dX9_isAllSeen_16 : decode cX9_isAllSeen 16 = .ok (.bipush 8, 2) := by decide +kernel
theorem dX9_isAllSeen_18 : decode cX9_isAllSeen 18 = .ok (.if_icmp .gt 99, 3) := by decide +kernel
theorem dX9_isAllSeen_21 : decode cX9_isAllSeen 21 = .ok (.iload_n 2, 1) := by decide +kernel
theorem dX9_isAllSeen_22 : decode cX9_isAllSeen 22 = .ok (.ifCond .eq 95, 3) := by decide +kernel
theorem dX9_isAllSeen_25 : decode cX9_isAllSeen 25 = .ok (.iconst 0, 1) := by decide +kernel
theorem dX9_isAllSeen_26 : decode cX9_isAllSeen 26 = .ok (.istore 4, 2) := by decide +kernel
theorem dX9_isAllSeen_28 : decode cX9_isAllSeen 28 = .ok (.iload 4, 2) := by decide +kernel
theorem dX9_isAllSeen_30 : decode cX9_isAllSeen 30 = .ok (.aload_n 0, 1) := by decide +kernel
theorem dX9_isAllSeen_31 : decode cX9_isAllSeen 31 = .ok (.getfield 9, 3) := by decide +kernel
theorem dX9_isAllSeen_34 : decode cX9_isAllSeen 34 = .ok (.bipush 96, 2) := by decide +kernel
theorem dX9_isAllSeen_36 : decode cX9_isAllSeen 36 = .ok (.iaload, 1) := by decide +kernel
theorem dX9_isAllSeen_37 : decode cX9_isAllSeen 37 = .ok (.if_icmp .ge 70, 3) := by decide +kernel
theorem dX9_isAllSeen_40 : decode cX9_isAllSeen 40 = .ok (.bipush 97, 2) := by decide +kernel
theorem dX9_isAllSeen_42 : decode cX9_isAllSeen 42 = .ok (.iconst 3, 1) := by decide +kernel
theorem dX9_isAllSeen_43 : decode cX9_isAllSeen 43 = .ok (.iload 4, 2) := by decide +kernel
theorem dX9_isAllSeen_45 : decode cX9_isAllSeen 45 = .ok (.imul, 1) := by decide +kernel
theorem dX9_isAllSeen_46 : decode cX9_isAllSeen 46 = .ok (.iadd, 1) := by decide +kernel
theorem dX9_isAllSeen_47 : decode cX9_isAllSeen 47 = .ok (.istore 5, 2) := by decide +kernel
theorem dX9_isAllSeen_49 : decode cX9_isAllSeen 49 = .ok (.iload_n 2, 1) := by decide +kernel
theorem dX9_isAllSeen_50 : decode cX9_isAllSeen 50 = .ok (.ifCond .eq 49, 3) := by decide +kernel
theorem dX9_isAllSeen_53 : decode cX9_isAllSeen 53 = .ok (.aload_n 0, 1) := by decide +kernel
theorem dX9_isAllSeen_54 : decode cX9_isAllSeen 54 = .ok (.getfield 9, 3) := by decide +kernel
theorem dX9_isAllSeen_57 : decode cX9_isAllSeen 57 = .ok (.iload 5, 2) := by decide +kernel
theorem dX9_isAllSeen_59 : decode cX9_isAllSeen 59 = .ok (.iaload, 1) := by decide +kernel
theorem dX9_isAllSeen_60 : decode cX9_isAllSeen 60 = .ok (.iload_n 1, 1) := by decide +kernel
theorem dX9_isAllSeen_61 : decode cX9_isAllSeen 61 = .ok (.if_icmp .ne 34, 3) := by decide +kernel
theorem dX9_isAllSeen_64 : decode cX9_isAllSeen 64 = .ok (.aload_n 0, 1) := by decide +kernel
theorem dX9_isAllSeen_65 : decode cX9_isAllSeen 65 = .ok (.getfield 9, 3) := by decide +kernel
theorem dX9_isAllSeen_68 : decode cX9_isAllSeen 68 = .ok (.iload 5, 2) := by decide +kernel
theorem dX9_isAllSeen_70 : decode cX9_isAllSeen 70 = .ok (.iconst 1, 1) := by decide +kernel
theorem dX9_isAllSeen_71 : decode cX9_isAllSeen 71 = .ok (.iadd, 1) := by decide +kernel
theorem dX9_isAllSeen_72 : decode cX9_isAllSeen 72 = .ok (.iaload, 1) := by decide +kernel
theorem dX9_isAllSeen_73 : decode cX9_isAllSeen 73 = .ok (.iload_n 3, 1) := by decide +kernel
theorem dX9_isAllSeen_74 : decode cX9_isAllSeen 74 = .ok (.if_icmp .ne 21, 3) := by decide +kernel
theorem dX9_isAllSeen_77 : decode cX9_isAllSeen 77 = .ok (.aload_n 0, 1) := by decide +kernel
theorem dX9_isAllSeen_78 : decode cX9_isAllSeen 78 = .ok (.iload_n 1, 1) := by decide +kernel
theorem dX9_isAllSeen_79 : decode cX9_isAllSeen 79 = .ok (.iconst 2, 1) := by decide +kernel
theorem dX9_isAllSeen_80 : decode cX9_isAllSeen 80 = .ok (.invokevirtual 102, 3) := by decide +kernel
theorem dX9_isAllSeen_83 : decode cX9_isAllSeen 83 = .ok (.aload_n 0, 1) := by decide +kernel
theorem dX9_isAllSeen_84 : decode cX9_isAllSeen 84 = .ok (.getfield 9, 3) := by decide +kernel
theorem dX9_isAllSeen_87 : decode cX9_isAllSeen 87 = .ok (.iload 5, 2) := by decide +kernel
theorem dX9_isAllSeen_89 : decode cX9_isAllSeen 89 = .ok (.iconst 2, 1) := by decide +kernel
theorem dX9_isAllSeen_90 : decode cX9_isAllSeen 90 = .ok (.iadd, 1) := by decide +kernel
theorem dX9_isAllSeen_91 : decode cX9_isAllSeen 91 = .ok (.iaload, 1) := by decide +kernel
theorem dX9_isAllSeen_92 : decode cX9_isAllSeen 92 = .ok (.if_icmp .ne 7, 3) := by decide +kernel
theorem dX9_isAllSeen_95 : decode cX9_isAllSeen 95 = .ok (.iconst 1, 1) := by decide +kernel
theorem dX9_isAllSeen_96 : decode cX9_isAllSeen 96 = .ok (.goto 4, 3) := by decide +kernel
theorem dX9_isAllSeen_99 : decode cX9_isAllSeen 99 = .ok (.iconst 0, 1) := by decide +kernel
theorem dX9_isAllSeen_100 : decode cX9_isAllSeen 100 = .ok (.istore_n 2, 1) := by decide +kernel
theorem dX9_isAllSeen_101 : decode cX9_isAllSeen 101 = .ok (.iinc 4 1, 3) := by decide +kernel
theorem dX9_isAllSeen_104 : decode cX9_isAllSeen 104 = .ok (.goto (-76), 3) := by decide +kernel
theorem dX9_isAllSeen_107 : decode cX9_isAllSeen 107 = .ok (.aload_n 0, 1) := by decide +kernel
theorem dX9_isAllSeen_108 : decode cX9_isAllSeen 108 = .ok (.invokevirtual 242, 3) := by decide +kernel
theorem dX9_isAllSeen_111 : decode cX9_isAllSeen 111 = .ok (.iinc 3 1, 3) := by decide +kernel
theorem dX9_isAllSeen_114 : decode cX9_isAllSeen 114 = .ok (.goto (-99), 3) := by decide +kernel
theorem dX9_isAllSeen_117 : decode cX9_isAllSeen 117 = .ok (.aload_n 0, 1) := by decide +kernel
theorem dX9_isAllSeen_118 : decode cX9_isAllSeen 118 = .ok (.getfield 15, 3) := by decide +kernel
theorem dX9_isAllSeen_121 : decode cX9_isAllSeen 121 = .ok (.aload_n 0, 1) := by decide +kernel
theorem dX9_isAllSeen_122 : decode cX9_isAllSeen 122 = .ok (.getfield 9, 3) := by decide +kernel
theorem dX9_isAllSeen_125 : decode cX9_isAllSeen 125 = .ok (.invokestatic 94, 3) := by decide +kernel
theorem dX9_isAllSeen_128 : decode cX9_isAllSeen 128 = .ok (.iload_n 2, 1) := by decide +kernel
theorem dX9_isAllSeen_129 : decode cX9_isAllSeen 129 = .ok (.ireturn, 1) := by decide +kernel
theorem dX9_fits_0 : decode cX9_fits 0 = .ok (.aload_n 0, 1) := by decide +kernel
theorem dX9_fits_1 : decode cX9_fits 1 = .ok (.iload_n 1, 1) := by decide +kernel
theorem dX9_fits_2 : decode cX9_fits 2 = .ok (.iload_n 2, 1) := by decide +kernel
theorem dX9_fits_3 : decode cX9_fits 3 = .ok (.invokevirtual 102, 3) := by decide +kernel
theorem dX9_fits_6 : decode cX9_fits 6 = .ok (.istore 4, 2) := by decide +kernel
theorem dX9_fits_8 : decode cX9_fits 8 = .ok (.iconst 0, 1) := by decide +kernel
theorem dX9_fits_9 : decode cX9_fits 9 = .ok (.istore 5, 2) := by decide +kernel
theorem dX9_fits_11 : decode cX9_fits 11 = .ok (.iconst 0, 1) := by decide +kernel
theorem dX9_fits_12 : decode cX9_fits 12 = .ok (.istore 6, 2) := by decide +kernel
theorem dX9_fits_14 : decode cX9_fits 14 = .ok (.iload 6, 2) := by decide +kernel
theorem dX9_fits_16 : decode cX9_fits 16 = .ok (.iload_n 3, 1) := by decide +kernel
theorem dX9_fits_17 : decode cX9_fits 17 = .ok (.if_icmp .gt 39, 3) := by decide +kernel
theorem dX9_fits_20 : decode cX9_fits 20 = .ok (.aload_n 0, 1) := by decide +kernel
theorem dX9_fits_21 : decode cX9_fits 21 = .ok (.iload_n 1, 1) := by decide +kernel
theorem dX9_fits_22 : decode cX9_fits 22 = .ok (.iload_n 2, 1) := by decide +kernel
theorem dX9_fits_23 : decode cX9_fits 23 = .ok (.iload 6, 2) := by decide +kernel
theorem dX9_fits_25 : decode cX9_fits 25 = .ok (.invokevirtual 110, 3) := by decide +kernel
theorem dX9_fits_28 : decode cX9_fits 28 = .ok (.pop, 1) := by decide +kernel
theorem dX9_fits_29 : decode cX9_fits 29 = .ok (.iload 5, 2) := by decide +kernel
theorem dX9_fits_31 : decode cX9_fits 31 = .ok (.aload_n 0, 1) := by decide +kernel
theorem dX9_fits_32 : decode cX9_fits 32 = .ok (.iload_n 1, 1) := by decide +kernel
theorem dX9_fits_33 : decode cX9_fits 33 = .ok (.invokevirtual 265, 3) := by decide +kernel
theorem dX9_fits_36 : decode cX9_fits 36 = .ok (.ifCond .eq 10, 3) := by decide +kernel
theorem dX9_fits_39 : decode cX9_fits 39 = .ok (.iconst 1, 1) := by decide +kernel
theorem dX9_fits_40 : decode cX9_fits 40 = .ok (.iload 6, 2) := by decide +kernel
theorem dX9_fits_42 : decode cX9_fits 42 = .ok (.ishl, 1) := by decide +kernel
theorem dX9_fits_43 : decode cX9_fits 43 = .ok (.goto 4, 3) := by decide +kernel
theorem dX9_fits_46 : decode cX9_fits 46 = .ok (.iconst 0, 1) := by decide +kernel
theorem dX9_fits_47 : decode cX9_fits 47 = .ok (.ior, 1) := by decide +kernel
theorem dX9_fits_48 : decode cX9_fits 48 = .ok (.istore 5, 2) := by decide +kernel
theorem dX9_fits_50 : decode cX9_fits 50 = .ok (.iinc 6 1, 3) := by decide +kernel
theorem dX9_fits_53 : decode cX9_fits 53 = .ok (.goto (-39), 3) := by decide +kernel
theorem dX9_fits_56 : decode cX9_fits 56 = .ok (.aload_n 0, 1) := by decide +kernel
theorem dX9_fits_57 : decode cX9_fits 57 = .ok (.iload_n 1, 1) := by decide +kernel
theorem dX9_fits_58 : decode cX9_fits 58 = .ok (.iload_n 2, 1) := by decide +kernel
theorem dX9_fits_59 : decode cX9_fits 59 = .ok (.iload 4, 2) := by decide +kernel
theorem dX9_fits_61 : decode cX9_fits 61 = .ok (.invokevirtual 110, 3) := by decide +kernel
theorem dX9_fits_64 : decode cX9_fits 64 = .ok (.pop, 1) := by decide +kernel
theorem dX9_fits_65 : decode cX9_fits 65 = .ok (.iload 5, 2) := by decide +kernel
theorem dX9_fits_67 : decode cX9_fits 67 = .ok (.ireturn, 1) := by decide +kernel
theorem dX9_from_0 : decode cX9_from 0 = .ok (.aload_n 0, 1) := by decide +kernel
theorem dX9_from_1 : decode cX9_from 1 = .ok (.iload_n 1, 1) := by decide +kernel
theorem dX9_from_2 : decode cX9_from 2 = .ok (.invokevirtual 114, 3) := by decide +kernel
theorem dX9_from_5 : decode cX9_from 5 = .ok (.ifCond .eq 13, 3) := by decide +kernel
theorem dX9_from_8 : decode cX9_from 8 = .ok (.aload_n 0, 1) := by decide +kernel
theorem dX9_from_9 : decode cX9_from 9 = .ok (.iload_n 1, 1) := by decide +kernel
theorem dX9_from_10 : decode cX9_from 10 = .ok (.iconst 2, 1) := by decide +kernel
theorem dX9_from_11 : decode cX9_from 11 = .ok (.iconst 5, 1) := by decide +kernel
theorem dX9_from_12 : decode cX9_from 12 = .ok (.invokevirtual 268, 3) := by decide +kernel
theorem dX9_from_15 : decode cX9_from 15 = .ok (.goto 4, 3) := by decide +kernel
theorem dX9_from_18 : decode cX9_from 18 = .ok (.iconst (-1), 1) := by decide +kernel
theorem dX9_from_19 : decode cX9_from 19 = .ok (.ireturn, 1) := by decide +kernel
theorem dX9_can_0 : decode cX9_can 0 = .ok (.aload_n 0, 1) := by decide +kernel
theorem dX9_can_1 : decode cX9_can 1 = .ok (.iload_n 1, 1) := by decide +kernel
theorem dX9_can_2 : decode cX9_can 2 = .ok (.invokevirtual 114, 3) := by decide +kernel
theorem dX9_can_5 : decode cX9_can 5 = .ok (.ifCond .eq 12, 3) := by decide +kernel
theorem dX9_can_8 : decode cX9_can 8 = .ok (.iload_n 2, 1) := by decide +kernel
theorem dX9_can_9 : decode cX9_can 9 = .ok (.iconst 0, 1) := by decide +kernel
theorem dX9_can_10 : decode cX9_can 10 = .ok (.iconst 1, 1) := by decide +kernel
theorem dX9_can_11 : decode cX9_can 11 = .ok (.invokestatic 98, 3) := by decide +kernel
theorem dX9_can_14 : decode cX9_can 14 = .ok (.ifCond .ne 5, 3) := by decide +kernel
theorem dX9_can_17 : decode cX9_can 17 = .ok (.iconst (-1), 1) := by decide +kernel
theorem dX9_can_18 : decode cX9_can 18 = .ok (.ireturn, 1) := by decide +kernel
theorem dX9_can_19 : decode cX9_can 19 = .ok (.aload_n 0, 1) := by decide +kernel
theorem dX9_can_20 : decode cX9_can 20 = .ok (.iload_n 1, 1) := by decide +kernel
theorem dX9_can_21 : decode cX9_can 21 = .ok (.iconst 1, 1) := by decide +kernel
theorem dX9_can_22 : decode cX9_can 22 = .ok (.bipush 9, 2) := by decide +kernel
theorem dX9_can_24 : decode cX9_can 24 = .ok (.invokevirtual 268, 3) := by decide +kernel
theorem dX9_can_27 : decode cX9_can 27 = .ok (.istore_n 3, 1) := by decide +kernel
theorem dX9_can_28 : decode cX9_can 28 = .ok (.iconst 0, 1) := by decide +kernel
theorem dX9_can_29 : decode cX9_can 29 = .ok (.istore 4, 2) := by decide +kernel
theorem dX9_can_31 : decode cX9_can 31 = .ok (.bipush (-5), 2) := by decide +kernel
theorem dX9_can_33 : decode cX9_can 33 = .ok (.istore 5, 2) := by decide +kernel
theorem dX9_can_35 : decode cX9_can 35 = .ok (.bipush 9, 2) := by decide +kernel
theorem dX9_can_37 : decode cX9_can 37 = .ok (.istore 6, 2) := by decide +kernel
theorem dX9_can_39 : decode cX9_can 39 = .ok (.iload 6, 2) := by decide +kernel
theorem dX9_can_41 : decode cX9_can 41 = .ok (.ifCond .lt 39, 3) := by decide +kernel
theorem dX9_can_44 : decode cX9_can 44 = .ok (.iload 4, 2) := by decide +kernel
theorem dX9_can_46 : decode cX9_can 46 = .ok (.iload_n 3, 1) := by decide +kernel
theorem dX9_can_47 : decode cX9_can 47 = .ok (.iload 6, 2) := by decide +kernel
theorem dX9_can_49 : decode cX9_can 49 = .ok (.ishr, 1) := by decide +kernel
theorem dX9_can_50 : decode cX9_can 50 = .ok (.iconst 1, 1) := by decide +kernel
theorem dX9_can_51 : decode cX9_can 51 = .ok (.iand, 1) := by decide +kernel
theorem dX9_can_52 : decode cX9_can 52 = .ok (.iadd, 1) := by decide +kernel
theorem dX9_can_53 : decode cX9_can 53 = .ok (.istore 4, 2) := by decide +kernel
theorem dX9_can_55 : decode cX9_can 55 = .ok (.iload_n 3, 1) := by decide +kernel
theorem dX9_can_56 : decode cX9_can 56 = .ok (.iload 6, 2) := by decide +kernel
theorem dX9_can_58 : decode cX9_can 58 = .ok (.ishr, 1) := by decide +kernel
theorem dX9_can_59 : decode cX9_can 59 = .ok (.iconst 1, 1) := by decide +kernel
theorem dX9_can_60 : decode cX9_can 60 = .ok (.iand, 1) := by decide +kernel
theorem dX9_can_61 : decode cX9_can 61 = .ok (.iconst 1, 1) := by decide +kernel
theorem dX9_can_62 : decode cX9_can 62 = .ok (.if_icmp .ne 8, 3) := by decide +kernel
theorem dX9_can_65 : decode cX9_can 65 = .ok (.iload 6, 2) := by decide +kernel
theorem dX9_can_67 : decode cX9_can 67 = .ok (.goto 5, 3) := by decide +kernel
theorem dX9_can_70 : decode cX9_can 70 = .ok (.iload 5, 2) := by decide +kernel
theorem dX9_can_72 : decode cX9_can 72 = .ok (.istore 5, 2) := by decide +kernel
theorem dX9_can_74 : decode cX9_can 74 = .ok (.iinc 6 (-1), 3) := by decide +kernel
theorem dX9_can_77 : decode cX9_can 77 = .ok (.goto (-38), 3) := by decide +kernel
theorem dX9_can_80 : decode cX9_can 80 = .ok (.iload_n 2, 1) := by decide +kernel
theorem dX9_can_81 : decode cX9_can 81 = .ok (.ifCond .ne 8, 3) := by decide +kernel
theorem dX9_can_84 : decode cX9_can 84 = .ok (.iload 4, 2) := by decide +kernel
theorem dX9_can_86 : decode cX9_can 86 = .ok (.goto 5, 3) := by decide +kernel
theorem dX9_can_89 : decode cX9_can 89 = .ok (.iload 5, 2) := by decide +kernel
theorem dX9_can_91 : decode cX9_can 91 = .ok (.ireturn, 1) := by decide +kernel
theorem dX9_fraction_0 : decode cX9_fraction 0 = .ok (.lload_n 0, 1) := by decide +kernel
theorem dX9_fraction_1 : decode cX9_fraction 1 = .ok (.lstore 5, 2) := by decide +kernel
theorem dX9_fraction_3 : decode cX9_fraction 3 = .ok (.lload_n 2, 1) := by decide +kernel
theorem dX9_fraction_4 : decode cX9_fraction 4 = .ok (.lstore 7, 2) := by decide +kernel
theorem dX9_fraction_6 : decode cX9_fraction 6 = .ok (.lload 7, 2) := by decide +kernel
theorem dX9_fraction_8 : decode cX9_fraction 8 = .ok (.lconst 0, 1) := by decide +kernel
theorem dX9_fraction_9 : decode cX9_fraction 9 = .ok (.lcmp, 1) := by decide +kernel
theorem dX9_fraction_10 : decode cX9_fraction 10 = .ok (.ifCond .eq 21, 3) := by decide +kernel
theorem dX9_fraction_13 : decode cX9_fraction 13 = .ok (.lload 5, 2) := by decide +kernel
theorem dX9_fraction_15 : decode cX9_fraction 15 = .ok (.lload 7, 2) := by decide +kernel
theorem dX9_fraction_17 : decode cX9_fraction 17 = .ok (.lrem, 1) := by decide +kernel
theorem dX9_fraction_18 : decode cX9_fraction 18 = .ok (.lstore 9, 2) := by decide +kernel
theorem dX9_fraction_20 : decode cX9_fraction 20 = .ok (.lload 7, 2) := by decide +kernel
theorem dX9_fraction_22 : decode cX9_fraction 22 = .ok (.lstore 5, 2) := by decide +kernel
theorem dX9_fraction_24 : decode cX9_fraction 24 = .ok (.lload 9, 2) := by decide +kernel
theorem dX9_fraction_26 : decode cX9_fraction 26 = .ok (.lstore 7, 2) := by decide +kernel
theorem dX9_fraction_28 : decode cX9_fraction 28 = .ok (.goto (-22), 3) := by decide +kernel
theorem dX9_fraction_31 : decode cX9_fraction 31 = .ok (.iload 4, 2) := by decide +kernel
theorem dX9_fraction_33 : decode cX9_fraction 33 = .ok (.ifCond .ne 10, 3) := by decide +kernel
theorem dX9_fraction_36 : decode cX9_fraction 36 = .ok (.lload_n 0, 1) := by decide +kernel
theorem dX9_fraction_37 : decode cX9_fraction 37 = .ok (.lload 5, 2) := by decide +kernel
theorem dX9_fraction_39 : decode cX9_fraction 39 = .ok (.ldiv, 1) := by decide +kernel
theorem dX9_fraction_40 : decode cX9_fraction 40 = .ok (.goto 7, 3) := by decide +kernel
theorem dX9_fraction_43 : decode cX9_fraction 43 = .ok (.lload_n 2, 1) := by decide +kernel
theorem dX9_fraction_44 : decode cX9_fraction 44 = .ok (.lload 5, 2) := by decide +kernel
theorem dX9_fraction_46 : decode cX9_fraction 46 = .ok (.ldiv, 1) := by decide +kernel
theorem dX9_fraction_47 : decode cX9_fraction 47 = .ok (.lreturn, 1) := by decide +kernel
theorem dX9_odds_0 : decode cX9_odds 0 = .ok (.aload_n 0, 1) := by decide +kernel
theorem dX9_odds_1 : decode cX9_odds 1 = .ok (.iload_n 1, 1) := by decide +kernel
theorem dX9_odds_2 : decode cX9_odds 2 = .ok (.invokevirtual 114, 3) := by decide +kernel
theorem dX9_odds_5 : decode cX9_odds 5 = .ok (.ifCond .eq 29, 3) := by decide +kernel
theorem dX9_odds_8 : decode cX9_odds 8 = .ok (.iload_n 2, 1) := by decide +kernel
theorem dX9_odds_9 : decode cX9_odds 9 = .ok (.invokestatic 106, 3) := by decide +kernel
theorem dX9_odds_12 : decode cX9_odds 12 = .ok (.ifCond .eq 22, 3) := by decide +kernel
theorem dX9_odds_15 : decode cX9_odds 15 = .ok (.iload_n 3, 1) := by decide +kernel
theorem dX9_odds_16 : decode cX9_odds 16 = .ok (.iconst 0, 1) := by decide +kernel
theorem dX9_odds_17 : decode cX9_odds 17 = .ok (.iconst 1, 1) := by decide +kernel
theorem dX9_odds_18 : decode cX9_odds 18 = .ok (.invokestatic 98, 3) := by decide +kernel
theorem dX9_odds_21 : decode cX9_odds 21 = .ok (.ifCond .eq 13, 3) := by decide +kernel
theorem dX9_odds_24 : decode cX9_odds 24 = .ok (.aload_n 0, 1) := by decide +kernel
theorem dX9_odds_25 : decode cX9_odds 25 = .ok (.getfield 9, 3) := by decide +kernel
theorem dX9_odds_28 : decode cX9_odds 28 = .ok (.bipush 93, 2) := by decide +kernel
theorem dX9_odds_30 : decode cX9_odds 30 = .ok (.iaload, 1) := by decide +kernel
theorem dX9_odds_31 : decode cX9_odds 31 = .ok (.ifCond .ne 7, 3) := by decide +kernel
theorem dX9_odds_34 : decode cX9_odds 34 = .ok (.ldc2_w 271, 3) := by decide +kernel
theorem dX9_odds_37 : decode cX9_odds 37 = .ok (.lreturn, 1) := by decide +kernel
theorem dX9_odds_38 : decode cX9_odds 38 = .ok (.iconst 0, 1) := by decide +kernel
theorem dX9_odds_39 : decode cX9_odds 39 = .ok (.istore 4, 2) := by decide +kernel
theorem dX9_odds_41 : decode cX9_odds 41 = .ok (.iconst 0, 1) := by decide +kernel
theorem dX9_odds_42 : decode cX9_odds 42 = .ok (.istore 5, 2) := by decide +kernel
theorem dX9_odds_44 : decode cX9_odds 44 = .ok (.iload 5, 2) := by decide +kernel
theorem dX9_odds_46 : decode cX9_odds 46 = .ok (.aload_n 0, 1) := by decide +kernel
theorem dX9_odds_47 : decode cX9_odds 47 = .ok (.getfield 9, 3) := by decide +kernel
theorem dX9_odds_50 : decode cX9_odds 50 = .ok (.bipush 93, 2) := by decide +kernel
theorem dX9_odds_52 : decode cX9_odds 52 = .ok (.iaload, 1) := by decide +kernel
theorem dX9_odds_53 : decode cX9_odds 53 = .ok (.if_icmp .ge 57, 3) := by decide +kernel
theorem dX9_odds_56 : decode cX9_odds 56 = .ok (.aload_n 0, 1) := by decide +kernel
theorem dX9_odds_57 : decode cX9_odds 57 = .ok (.iload 5, 2) := by decide +kernel
theorem dX9_odds_59 : decode cX9_odds 59 = .ok (.iconst 1, 1) := by decide +kernel
theorem dX9_odds_60 : decode cX9_odds 60 = .ok (.invokevirtual 273, 3) := by decide +kernel
theorem dX9_odds_63 : decode cX9_odds 63 = .ok (.istore 6, 2) := by decide +kernel
theorem dX9_odds_65 : decode cX9_odds 65 = .ok (.iload 4, 2) := by decide +kernel
theorem dX9_odds_67 : decode cX9_odds 67 = .ok (.aload_n 0, 1) := by decide +kernel
theorem dX9_odds_68 : decode cX9_odds 68 = .ok (.iload_n 1, 1) := by decide +kernel
theorem dX9_odds_69 : decode cX9_odds 69 = .ok (.iload_n 2, 1) := by decide +kernel
theorem dX9_odds_70 : decode cX9_odds 70 = .ok (.invokevirtual 239, 3) := by decide +kernel
theorem dX9_odds_73 : decode cX9_odds 73 = .ok (.bipush (-5), 2) := by decide +kernel
theorem dX9_odds_75 : decode cX9_odds 75 = .ok (.if_icmp .ne 7, 3) := by decide +kernel
theorem dX9_odds_78 : decode cX9_odds 78 = .ok (.iconst 0, 1) := by decide +kernel
theorem dX9_odds_79 : decode cX9_odds 79 = .ok (.goto 4, 3) := by decide +kernel
theorem dX9_odds_82 : decode cX9_odds 82 = .ok (.iconst 1, 1) := by decide +kernel
theorem dX9_odds_83 : decode cX9_odds 83 = .ok (.iadd, 1) := by decide +kernel
theorem dX9_odds_84 : decode cX9_odds 84 = .ok (.istore 4, 2) := by decide +kernel
theorem dX9_odds_86 : decode cX9_odds 86 = .ok (.aload_n 0, 1) := by decide +kernel
theorem dX9_odds_87 : decode cX9_odds 87 = .ok (.iload 5, 2) := by decide +kernel
theorem dX9_odds_89 : decode cX9_odds 89 = .ok (.iload 6, 2) := by decide +kernel
theorem dX9_odds_91 : decode cX9_odds 91 = .ok (.iconst 1, 1) := by decide +kernel
theorem dX9_odds_92 : decode cX9_odds 92 = .ok (.if_icmp .ne 7, 3) := by decide +kernel
theorem dX9_odds_95 : decode cX9_odds 95 = .ok (.iconst 1, 1) := by decide +kernel
theorem dX9_odds_96 : decode cX9_odds 96 = .ok (.goto 4, 3) := by decide +kernel
theorem dX9_odds_99 : decode cX9_odds 99 = .ok (.iconst 0, 1) := by decide +kernel
theorem dX9_odds_100 : decode cX9_odds 100 = .ok (.invokevirtual 273, 3) := by decide +kernel
theorem dX9_odds_103 : decode cX9_odds 103 = .ok (.pop, 1) := by decide +kernel
theorem dX9_odds_104 : decode cX9_odds 104 = .ok (.iinc 5 1, 3) := by decide +kernel
theorem dX9_odds_107 : decode cX9_odds 107 = .ok (.goto (-63), 3) := by decide +kernel
theorem dX9_odds_110 : decode cX9_odds 110 = .ok (.iload 4, 2) := by decide +kernel
theorem dX9_odds_112 : decode cX9_odds 112 = .ok (.i2l, 1) := by decide +kernel
theorem dX9_odds_113 : decode cX9_odds 113 = .ok (.aload_n 0, 1) := by decide +kernel
theorem dX9_odds_114 : decode cX9_odds 114 = .ok (.getfield 9, 3) := by decide +kernel
theorem dX9_odds_117 : decode cX9_odds 117 = .ok (.bipush 93, 2) := by decide +kernel
theorem dX9_odds_119 : decode cX9_odds 119 = .ok (.iaload, 1) := by decide +kernel
theorem dX9_odds_120 : decode cX9_odds 120 = .ok (.i2l, 1) := by decide +kernel
theorem dX9_odds_121 : decode cX9_odds 121 = .ok (.iload_n 3, 1) := by decide +kernel
theorem dX9_odds_122 : decode cX9_odds 122 = .ok (.invokestatic 277, 3) := by decide +kernel
theorem dX9_odds_125 : decode cX9_odds 125 = .ok (.lreturn, 1) := by decide +kernel
theorem dX9_mean_0 : decode cX9_mean 0 = .ok (.iload_n 1, 1) := by decide +kernel
theorem dX9_mean_1 : decode cX9_mean 1 = .ok (.iconst 0, 1) := by decide +kernel
theorem dX9_mean_2 : decode cX9_mean 2 = .ok (.iconst 1, 1) := by decide +kernel
theorem dX9_mean_3 : decode cX9_mean 3 = .ok (.invokestatic 98, 3) := by decide +kernel
theorem dX9_mean_6 : decode cX9_mean 6 = .ok (.ifCond .eq 33, 3) := by decide +kernel
theorem dX9_mean_9 : decode cX9_mean 9 = .ok (.aload_n 0, 1) := by decide +kernel
theorem dX9_mean_10 : decode cX9_mean 10 = .ok (.getfield 9, 3) := by decide +kernel
theorem dX9_mean_13 : decode cX9_mean 13 = .ok (.bipush 92, 2) := by decide +kernel
theorem dX9_mean_15 : decode cX9_mean 15 = .ok (.iaload, 1) := by decide +kernel
theorem dX9_mean_16 : decode cX9_mean 16 = .ok (.ifCond .le 23, 3) := by decide +kernel
theorem dX9_mean_19 : decode cX9_mean 19 = .ok (.aload_n 0, 1) := by decide +kernel
theorem dX9_mean_20 : decode cX9_mean 20 = .ok (.invokevirtual 251, 3) := by decide +kernel
theorem dX9_mean_23 : decode cX9_mean 23 = .ok (.i2l, 1) := by decide +kernel
theorem dX9_mean_24 : decode cX9_mean 24 = .ok (.aload_n 0, 1) := by decide +kernel
theorem dX9_mean_25 : decode cX9_mean 25 = .ok (.getfield 9, 3) := by decide +kernel
theorem dX9_mean_28 : decode cX9_mean 28 = .ok (.bipush 92, 2) := by decide +kernel
theorem dX9_mean_30 : decode cX9_mean 30 = .ok (.iaload, 1) := by decide +kernel
theorem dX9_mean_31 : decode cX9_mean 31 = .ok (.i2l, 1) := by decide +kernel
theorem dX9_mean_32 : decode cX9_mean 32 = .ok (.iload_n 1, 1) := by decide +kernel
theorem dX9_mean_33 : decode cX9_mean 33 = .ok (.invokestatic 277, 3) := by decide +kernel
theorem dX9_mean_36 : decode cX9_mean 36 = .ok (.goto 6, 3) := by decide +kernel
theorem dX9_mean_39 : decode cX9_mean 39 = .ok (.ldc2_w 271, 3) := by decide +kernel
theorem dX9_mean_42 : decode cX9_mean 42 = .ok (.lreturn, 1) := by decide +kernel
theorem dX9_plan_0 : decode cX9_plan 0 = .ok (.iload_n 1, 1) := by decide +kernel
theorem dX9_plan_1 : decode cX9_plan 1 = .ok (.iconst (-1), 1) := by decide +kernel
theorem dX9_plan_2 : decode cX9_plan 2 = .ok (.if_icmp .ne 13, 3) := by decide +kernel
theorem dX9_plan_5 : decode cX9_plan 5 = .ok (.aload_n 0, 1) := by decide +kernel
theorem dX9_plan_6 : decode cX9_plan 6 = .ok (.getfield 9, 3) := by decide +kernel
theorem dX9_plan_9 : decode cX9_plan 9 = .ok (.bipush 112, 2) := by decide +kernel
theorem dX9_plan_11 : decode cX9_plan 11 = .ok (.iconst 0, 1) := by decide +kernel
theorem dX9_plan_12 : decode cX9_plan 12 = .ok (.iastore, 1) := by decide +kernel
theorem dX9_plan_13 : decode cX9_plan 13 = .ok (.iconst 0, 1) := by decide +kernel
theorem dX9_plan_14 : decode cX9_plan 14 = .ok (.ireturn, 1) := by decide +kernel
theorem dX9_plan_15 : decode cX9_plan 15 = .ok (.iload_n 1, 1) := by decide +kernel
theorem dX9_plan_16 : decode cX9_plan 16 = .ok (.ifCond .eq 34, 3) := by decide +kernel
theorem dX9_plan_19 : decode cX9_plan 19 = .ok (.iload_n 1, 1) := by decide +kernel
theorem dX9_plan_20 : decode cX9_plan 20 = .ok (.iconst 1, 1) := by decide +kernel
theorem dX9_plan_21 : decode cX9_plan 21 = .ok (.if_icmp .eq 8, 3) := by decide +kernel
theorem dX9_plan_24 : decode cX9_plan 24 = .ok (.iload_n 1, 1) := by decide +kernel
theorem dX9_plan_25 : decode cX9_plan 25 = .ok (.iconst 2, 1) := by decide +kernel
theorem dX9_plan_26 : decode cX9_plan 26 = .ok (.if_icmp .ne 11, 3) := by decide +kernel
theorem dX9_plan_29 : decode cX9_plan 29 = .ok (.aload_n 0, 1) := by decide +kernel
theorem dX9_plan_30 : decode cX9_plan 30 = .ok (.iload_n 2, 1) := by decide +kernel
theorem dX9_plan_31 : decode cX9_plan 31 = .ok (.invokevirtual 130, 3) := by decide +kernel
theorem dX9_plan_34 : decode cX9_plan 34 = .ok (.ifCond .ne 16, 3) := by decide +kernel
theorem dX9_plan_37 : decode cX9_plan 37 = .ok (.iload_n 1, 1) := by decide +kernel
theorem dX9_plan_38 : decode cX9_plan 38 = .ok (.iconst 3, 1) := by decide +kernel
theorem dX9_plan_39 : decode cX9_plan 39 = .ok (.if_icmp .ne 15, 3) := by decide +kernel
theorem dX9_plan_42 : decode cX9_plan 42 = .ok (.aload_n 0, 1) := by decide +kernel
theorem dX9_plan_43 : decode cX9_plan 43 = .ok (.iload_n 2, 1) := by decide +kernel
theorem dX9_plan_44 : decode cX9_plan 44 = .ok (.invokevirtual 114, 3) := by decide +kernel
theorem dX9_plan_47 : decode cX9_plan 47 = .ok (.ifCond .eq 7, 3) := by decide +kernel
theorem dX9_plan_50 : decode cX9_plan 50 = .ok (.iconst 1, 1) := by decide +kernel
theorem dX9_plan_51 : decode cX9_plan 51 = .ok (.goto 4, 3) := by decide +kernel
theorem dX9_plan_54 : decode cX9_plan 54 = .ok (.iconst 0, 1) := by decide +kernel
theorem dX9_plan_55 : decode cX9_plan 55 = .ok (.istore_n 3, 1) := by decide +kernel
theorem dX9_plan_56 : decode cX9_plan 56 = .ok (.iload_n 3, 1) := by decide +kernel
theorem dX9_plan_57 : decode cX9_plan 57 = .ok (.ifCond .ne 5, 3) := by decide +kernel
theorem dX9_plan_60 : decode cX9_plan 60 = .ok (.iconst (-1), 1) := by decide +kernel
theorem dX9_plan_61 : decode cX9_plan 61 = .ok (.ireturn, 1) := by decide +kernel
theorem dX9_plan_62 : decode cX9_plan 62 = .ok (.aload_n 0, 1) := by decide +kernel
theorem dX9_plan_63 : decode cX9_plan 63 = .ok (.getfield 9, 3) := by decide +kernel
theorem dX9_plan_66 : decode cX9_plan 66 = .ok (.bipush 112, 2) := by decide +kernel
theorem dX9_plan_68 : decode cX9_plan 68 = .ok (.iaload, 1) := by decide +kernel
theorem dX9_plan_69 : decode cX9_plan 69 = .ok (.bipush 8, 2) := by decide +kernel
theorem dX9_plan_71 : decode cX9_plan 71 = .ok (.if_icmp .ne 6, 3) := by decide +kernel
theorem dX9_plan_74 : decode cX9_plan 74 = .ok (.bipush (-4), 2) := by decide +kernel
theorem dX9_plan_76 : decode cX9_plan 76 = .ok (.ireturn, 1) := by decide +kernel
theorem dX9_plan_77 : decode cX9_plan 77 = .ok (.aload_n 0, 1) := by decide +kernel
theorem dX9_plan_78 : decode cX9_plan 78 = .ok (.getfield 9, 3) := by decide +kernel
theorem dX9_plan_81 : decode cX9_plan 81 = .ok (.bipush 113, 2) := by decide +kernel
theorem dX9_plan_83 : decode cX9_plan 83 = .ok (.iconst 2, 1) := by decide +kernel
theorem dX9_plan_84 : decode cX9_plan 84 = .ok (.aload_n 0, 1) := by decide +kernel
theorem dX9_plan_85 : decode cX9_plan 85 = .ok (.getfield 9, 3) := by decide +kernel
theorem dX9_plan_88 : decode cX9_plan 88 = .ok (.bipush 112, 2) := by decide +kernel
theorem dX9_plan_90 : decode cX9_plan 90 = .ok (.iaload, 1) := by decide +kernel
theorem dX9_plan_91 : decode cX9_plan 91 = .ok (.imul, 1) := by decide +kernel
theorem dX9_plan_92 : decode cX9_plan 92 = .ok (.iadd, 1) := by decide +kernel
theorem dX9_plan_93 : decode cX9_plan 93 = .ok (.iload_n 1, 1) := by decide +kernel
theorem dX9_plan_94 : decode cX9_plan 94 = .ok (.iastore, 1) := by decide +kernel
theorem dX9_plan_95 : decode cX9_plan 95 = .ok (.aload_n 0, 1) := by decide +kernel
theorem dX9_plan_96 : decode cX9_plan 96 = .ok (.getfield 9, 3) := by decide +kernel
theorem dX9_plan_99 : decode cX9_plan 99 = .ok (.bipush 114, 2) := by decide +kernel
theorem dX9_plan_101 : decode cX9_plan 101 = .ok (.iconst 2, 1) := by decide +kernel
theorem dX9_plan_102 : decode cX9_plan 102 = .ok (.aload_n 0, 1) := by decide +kernel
theorem dX9_plan_103 : decode cX9_plan 103 = .ok (.getfield 9, 3) := by decide +kernel
theorem dX9_plan_106 : decode cX9_plan 106 = .ok (.bipush 112, 2) := by decide +kernel
theorem dX9_plan_108 : decode cX9_plan 108 = .ok (.iaload, 1) := by decide +kernel
theorem dX9_plan_109 : decode cX9_plan 109 = .ok (.imul, 1) := by decide +kernel
theorem dX9_plan_110 : decode cX9_plan 110 = .ok (.iadd, 1) := by decide +kernel
theorem dX9_plan_111 : decode cX9_plan 111 = .ok (.iload_n 2, 1) := by decide +kernel
theorem dX9_plan_112 : decode cX9_plan 112 = .ok (.iastore, 1) := by decide +kernel
theorem dX9_plan_113 : decode cX9_plan 113 = .ok (.aload_n 0, 1) := by decide +kernel
theorem dX9_plan_114 : decode cX9_plan 114 = .ok (.getfield 9, 3) := by decide +kernel
theorem dX9_plan_117 : decode cX9_plan 117 = .ok (.bipush 112, 2) := by decide +kernel
theorem dX9_plan_119 : decode cX9_plan 119 = .ok (.dup2, 1) := by decide +kernel
theorem dX9_plan_120 : decode cX9_plan 120 = .ok (.iaload, 1) := by decide +kernel
theorem dX9_plan_121 : decode cX9_plan 121 = .ok (.iconst 1, 1) := by decide +kernel
theorem dX9_plan_122 : decode cX9_plan 122 = .ok (.iadd, 1) := by decide +kernel
theorem dX9_plan_123 : decode cX9_plan 123 = .ok (.iastore, 1) := by decide +kernel
theorem dX9_plan_124 : decode cX9_plan 124 = .ok (.aload_n 0, 1) := by decide +kernel
theorem dX9_plan_125 : decode cX9_plan 125 = .ok (.getfield 9, 3) := by decide +kernel
theorem dX9_plan_128 : decode cX9_plan 128 = .ok (.bipush 112, 2) := by decide +kernel
theorem dX9_plan_130 : decode cX9_plan 130 = .ok (.iaload, 1) := by decide +kernel
theorem dX9_plan_131 : decode cX9_plan 131 = .ok (.ireturn, 1) := by decide +kernel
theorem dX9_ends_0 : decode cX9_ends 0 = .ok (.iload_n 1, 1) := by decide +kernel
theorem dX9_ends_1 : decode cX9_ends 1 = .ok (.iconst 0, 1) := by decide +kernel
theorem dX9_ends_2 : decode cX9_ends 2 = .ok (.iconst 1, 1) := by decide +kernel
theorem dX9_ends_3 : decode cX9_ends 3 = .ok (.invokestatic 98, 3) := by decide +kernel
theorem dX9_ends_6 : decode cX9_ends 6 = .ok (.ifCond .ne 5, 3) := by decide +kernel
theorem dX9_ends_9 : decode cX9_ends 9 = .ok (.iconst (-1), 1) := by decide +kernel
theorem dX9_ends_10 : decode cX9_ends 10 = .ok (.ireturn, 1) := by decide +kernel
theorem dX9_ends_11 : decode cX9_ends 11 = .ok (.aload_n 0, 1) := by decide +kernel
theorem dX9_ends_12 : decode cX9_ends 12 = .ok (.getfield 9, 3) := by decide +kernel
theorem dX9_ends_15 : decode cX9_ends 15 = .ok (.aload_n 0, 1) := by decide +kernel
theorem dX9_ends_16 : decode cX9_ends 16 = .ok (.getfield 15, 3) := by decide +kernel
theorem dX9_ends_19 : decode cX9_ends 19 = .ok (.invokestatic 94, 3) := by decide +kernel
theorem dX9_ends_22 : decode cX9_ends 22 = .ok (.iconst 0, 1) := by decide +kernel
theorem dX9_ends_23 : decode cX9_ends 23 = .ok (.istore_n 2, 1) := by decide +kernel
theorem dX9_ends_24 : decode cX9_ends 24 = .ok (.iload_n 2, 1) := by decide +kernel
theorem dX9_ends_25 : decode cX9_ends 25 = .ok (.aload_n 0, 1) := by decide +kernel
theorem dX9_ends_26 : decode cX9_ends 26 = .ok (.getfield 9, 3) := by decide +kernel
theorem dX9_ends_29 : decode cX9_ends 29 = .ok (.bipush 112, 2) := by decide +kernel
theorem dX9_ends_31 : decode cX9_ends 31 = .ok (.iaload, 1) := by decide +kernel
theorem dX9_ends_32 : decode cX9_ends 32 = .ok (.if_icmp .ge 76, 3) := by decide +kernel
theorem dX9_ends_35 : decode cX9_ends 35 = .ok (.aload_n 0, 1) := by decide +kernel
theorem dX9_ends_36 : decode cX9_ends 36 = .ok (.getfield 9, 3) := by decide +kernel
theorem dX9_ends_39 : decode cX9_ends 39 = .ok (.bipush 113, 2) := by decide +kernel
theorem dX9_ends_41 : decode cX9_ends 41 = .ok (.iconst 2, 1) := by decide +kernel
theorem dX9_ends_42 : decode cX9_ends 42 = .ok (.iload_n 2, 1) := by decide +kernel
theorem dX9_ends_43 : decode cX9_ends 43 = .ok (.imul, 1) := by decide +kernel
theorem dX9_ends_44 : decode cX9_ends 44 = .ok (.iadd, 1) := by decide +kernel
theorem dX9_ends_45 : decode cX9_ends 45 = .ok (.iaload, 1) := by decide +kernel
theorem dX9_ends_46 : decode cX9_ends 46 = .ok (.istore_n 3, 1) := by decide +kernel
theorem dX9_ends_47 : decode cX9_ends 47 = .ok (.aload_n 0, 1) := by decide +kernel
theorem dX9_ends_48 : decode cX9_ends 48 = .ok (.getfield 9, 3) := by decide +kernel
theorem dX9_ends_51 : decode cX9_ends 51 = .ok (.bipush 114, 2) := by decide +kernel
theorem dX9_ends_53 : decode cX9_ends 53 = .ok (.iconst 2, 1) := by decide +kernel
theorem dX9_ends_54 : decode cX9_ends 54 = .ok (.iload_n 2, 1) := by decide +kernel
theorem dX9_ends_55 : decode cX9_ends 55 = .ok (.imul, 1) := by decide +kernel
theorem dX9_ends_56 : decode cX9_ends 56 = .ok (.iadd, 1) := by decide +kernel
theorem dX9_ends_57 : decode cX9_ends 57 = .ok (.iaload, 1) := by decide +kernel
theorem dX9_ends_58 : decode cX9_ends 58 = .ok (.istore 4, 2) := by decide +kernel
theorem dX9_ends_60 : decode cX9_ends 60 = .ok (.iload_n 3, 1) := by decide +kernel
theorem dX9_ends_61 : decode cX9_ends 61 = .ok (.ifCond .ne 10, 3) := by decide +kernel
theorem dX9_ends_64 : decode cX9_ends 64 = .ok (.aload_n 0, 1) := by decide +kernel
theorem dX9_ends_65 : decode cX9_ends 65 = .ok (.invokevirtual 242, 3) := by decide +kernel
theorem dX9_ends_68 : decode cX9_ends 68 = .ok (.goto 34, 3) := by decide +kernel
theorem dX9_ends_71 : decode cX9_ends 71 = .ok (.iload_n 3, 1) := by decide +kernel
theorem dX9_ends_72 : decode cX9_ends 72 = .ok (.iconst 3, 1) := by decide +kernel
theorem dX9_ends_73 : decode cX9_ends 73 = .ok (.if_icmp .ne 15, 3) := by decide +kernel
theorem dX9_ends_76 : decode cX9_ends 76 = .ok (.aload_n 0, 1) := by decide +kernel
theorem dX9_ends_77 : decode cX9_ends 77 = .ok (.iload 4, 2) := by decide +kernel
theorem dX9_ends_79 : decode cX9_ends 79 = .ok (.iconst 4, 1) := by decide +kernel
theorem dX9_ends_80 : decode cX9_ends 80 = .ok (.iconst (-1), 1) := by decide +kernel
theorem dX9_ends_81 : decode cX9_ends 81 = .ok (.invokevirtual 110, 3) := by decide +kernel
theorem dX9_ends_84 : decode cX9_ends 84 = .ok (.pop, 1) := by decide +kernel
theorem dX9_ends_85 : decode cX9_ends 85 = .ok (.goto 17, 3) := by decide +kernel
theorem dX9_ends_88 : decode cX9_ends 88 = .ok (.aload_n 0, 1) := by decide +kernel
theorem dX9_ends_89 : decode cX9_ends 89 = .ok (.getfield 9, 3) := by decide +kernel
theorem dX9_ends_92 : decode cX9_ends 92 = .ok (.iconst 4, 1) := by decide +kernel
theorem dX9_ends_93 : decode cX9_ends 93 = .ok (.iload 4, 2) := by decide +kernel
theorem dX9_ends_95 : decode cX9_ends 95 = .ok (.imul, 1) := by decide +kernel
theorem dX9_ends_96 : decode cX9_ends 96 = .ok (.iconst 3, 1) := by decide +kernel
theorem dX9_ends_97 : decode cX9_ends 97 = .ok (.iadd, 1) := by decide +kernel
theorem dX9_ends_98 : decode cX9_ends 98 = .ok (.iconst 2, 1) := by decide +kernel
theorem dX9_ends_99 : decode cX9_ends 99 = .ok (.iload_n 3, 1) := by decide +kernel
theorem dX9_ends_100 : decode cX9_ends 100 = .ok (.isub, 1) := by decide +kernel
theorem dX9_ends_101 : decode cX9_ends 101 = .ok (.iastore, 1) := by decide +kernel
theorem dX9_ends_102 : decode cX9_ends 102 = .ok (.iinc 2 1, 3) := by decide +kernel
theorem dX9_ends_105 : decode cX9_ends 105 = .ok (.goto (-81), 3) := by decide +kernel
theorem dX9_ends_108 : decode cX9_ends 108 = .ok (.iload_n 1, 1) := by decide +kernel
theorem dX9_ends_109 : decode cX9_ends 109 = .ok (.ifCond .ne 10, 3) := by decide +kernel
theorem dX9_ends_112 : decode cX9_ends 112 = .ok (.aload_n 0, 1) := by decide +kernel
theorem dX9_ends_113 : decode cX9_ends 113 = .ok (.invokevirtual 248, 3) := by decide +kernel
theorem dX9_ends_116 : decode cX9_ends 116 = .ok (.goto 7, 3) := by decide +kernel
theorem dX9_ends_119 : decode cX9_ends 119 = .ok (.aload_n 0, 1) := by decide +kernel
theorem dX9_ends_120 : decode cX9_ends 120 = .ok (.invokevirtual 251, 3) := by decide +kernel
theorem dX9_ends_123 : decode cX9_ends 123 = .ok (.istore_n 2, 1) := by decide +kernel
theorem dX9_ends_124 : decode cX9_ends 124 = .ok (.aload_n 0, 1) := by decide +kernel
theorem dX9_ends_125 : decode cX9_ends 125 = .ok (.getfield 15, 3) := by decide +kernel
theorem dX9_ends_128 : decode cX9_ends 128 = .ok (.aload_n 0, 1) := by decide +kernel
theorem dX9_ends_129 : decode cX9_ends 129 = .ok (.getfield 9, 3) := by decide +kernel
theorem dX9_ends_132 : decode cX9_ends 132 = .ok (.invokestatic 94, 3) := by decide +kernel
theorem dX9_ends_135 : decode cX9_ends 135 = .ok (.iload_n 2, 1) := by decide +kernel
theorem dX9_ends_136 : decode cX9_ends 136 = .ok (.ireturn, 1) := by decide +kernel
theorem dX9_book_0 : decode cX9_book 0 = .ok (.iload_n 1, 1) := by decide +kernel
theorem dX9_book_1 : decode cX9_book 1 = .ok (.iconst (-1), 1) := by decide +kernel
theorem dX9_book_2 : decode cX9_book 2 = .ok (.if_icmp .ne 14, 3) := by decide +kernel
theorem dX9_book_5 : decode cX9_book 5 = .ok (.aload_n 0, 1) := by decide +kernel
theorem dX9_book_6 : decode cX9_book 6 = .ok (.getfield 9, 3) := by decide +kernel
theorem dX9_book_9 : decode cX9_book 9 = .ok (.sipush 129, 3) := by decide +kernel
theorem dX9_book_12 : decode cX9_book 12 = .ok (.iconst 0, 1) := by decide +kernel
theorem dX9_book_13 : decode cX9_book 13 = .ok (.iastore, 1) := by decide +kernel
theorem dX9_book_14 : decode cX9_book 14 = .ok (.iconst 0, 1) := by decide +kernel
theorem dX9_book_15 : decode cX9_book 15 = .ok (.ireturn, 1) := by decide +kernel
theorem dX9_book_16 : decode cX9_book 16 = .ok (.aload_n 0, 1) := by decide +kernel
theorem dX9_book_17 : decode cX9_book 17 = .ok (.iload_n 1, 1) := by decide +kernel
theorem dX9_book_18 : decode cX9_book 18 = .ok (.invokevirtual 114, 3) := by decide +kernel
theorem dX9_book_21 : decode cX9_book 21 = .ok (.ifCond .eq 10, 3) := by decide +kernel
theorem dX9_book_24 : decode cX9_book 24 = .ok (.iload_n 2, 1) := by decide +kernel
theorem dX9_book_25 : decode cX9_book 25 = .ok (.invokestatic 106, 3) := by decide +kernel
theorem dX9_book_28 : decode cX9_book 28 = .ok (.ifCond .ne 5, 3) := by decide +kernel
theorem dX9_book_31 : decode cX9_book 31 = .ok (.iconst (-1), 1) := by decide +kernel
theorem dX9_book_32 : decode cX9_book 32 = .ok (.ireturn, 1) := by decide +kernel
theorem dX9_book_33 : decode cX9_book 33 = .ok (.aload_n 0, 1) := by decide +kernel
theorem dX9_book_34 : decode cX9_book 34 = .ok (.getfield 9, 3) := by decide +kernel
theorem dX9_book_37 : decode cX9_book 37 = .ok (.sipush 129, 3) := by decide +kernel
theorem dX9_book_40 : decode cX9_book 40 = .ok (.iaload, 1) := by decide +kernel
theorem dX9_book_41 : decode cX9_book 41 = .ok (.bipush 8, 2) := by decide +kernel
theorem dX9_book_43 : decode cX9_book 43 = .ok (.if_icmp .ne 6, 3) := by decide +kernel
theorem dX9_book_46 : decode cX9_book 46 = .ok (.bipush (-4), 2) := by decide +kernel
theorem dX9_book_48 : decode cX9_book 48 = .ok (.ireturn, 1) := by decide +kernel
theorem dX9_book_49 : decode cX9_book 49 = .ok (.aload_n 0, 1) := by decide +kernel
theorem dX9_book_50 : decode cX9_book 50 = .ok (.getfield 9, 3) := by decide +kernel
theorem dX9_book_53 : decode cX9_book 53 = .ok (.sipush 130, 3) := by decide +kernel
theorem dX9_book_56 : decode cX9_book 56 = .ok (.iconst 2, 1) := by decide +kernel
theorem dX9_book_57 : decode cX9_book 57 = .ok (.aload_n 0, 1) := by decide +kernel
theorem dX9_book_58 : decode cX9_book 58 = .ok (.getfield 9, 3) := by decide +kernel
theorem dX9_book_61 : decode cX9_book 61 = .ok (.sipush 129, 3) := by decide +kernel
theorem dX9_book_64 : decode cX9_book 64 = .ok (.iaload, 1) := by decide +kernel
theorem dX9_book_65 : decode cX9_book 65 = .ok (.imul, 1) := by decide +kernel
theorem dX9_book_66 : decode cX9_book 66 = .ok (.iadd, 1) := by decide +kernel
theorem dX9_book_67 : decode cX9_book 67 = .ok (.iload_n 1, 1) := by decide +kernel
theorem dX9_book_68 : decode cX9_book 68 = .ok (.iastore, 1) := by decide +kernel
theorem dX9_book_69 : decode cX9_book 69 = .ok (.aload_n 0, 1) := by decide +kernel
theorem dX9_book_70 : decode cX9_book 70 = .ok (.getfield 9, 3) := by decide +kernel
theorem dX9_book_73 : decode cX9_book 73 = .ok (.sipush 131, 3) := by decide +kernel
theorem dX9_book_76 : decode cX9_book 76 = .ok (.iconst 2, 1) := by decide +kernel
theorem dX9_book_77 : decode cX9_book 77 = .ok (.aload_n 0, 1) := by decide +kernel
theorem dX9_book_78 : decode cX9_book 78 = .ok (.getfield 9, 3) := by decide +kernel
theorem dX9_book_81 : decode cX9_book 81 = .ok (.sipush 129, 3) := by decide +kernel
theorem dX9_book_84 : decode cX9_book 84 = .ok (.iaload, 1) := by decide +kernel
theorem dX9_book_85 : decode cX9_book 85 = .ok (.imul, 1) := by decide +kernel
theorem dX9_book_86 : decode cX9_book 86 = .ok (.iadd, 1) := by decide +kernel
theorem dX9_book_87 : decode cX9_book 87 = .ok (.iload_n 2, 1) := by decide +kernel
theorem dX9_book_88 : decode cX9_book 88 = .ok (.iastore, 1) := by decide +kernel
theorem dX9_book_89 : decode cX9_book 89 = .ok (.aload_n 0, 1) := by decide +kernel
theorem dX9_book_90 : decode cX9_book 90 = .ok (.getfield 9, 3) := by decide +kernel
theorem dX9_book_93 : decode cX9_book 93 = .ok (.sipush 129, 3) := by decide +kernel
theorem dX9_book_96 : decode cX9_book 96 = .ok (.dup2, 1) := by decide +kernel
theorem dX9_book_97 : decode cX9_book 97 = .ok (.iaload, 1) := by decide +kernel
theorem dX9_book_98 : decode cX9_book 98 = .ok (.iconst 1, 1) := by decide +kernel
theorem dX9_book_99 : decode cX9_book 99 = .ok (.iadd, 1) := by decide +kernel
theorem dX9_book_100 : decode cX9_book 100 = .ok (.iastore, 1) := by decide +kernel
theorem dX9_book_101 : decode cX9_book 101 = .ok (.aload_n 0, 1) := by decide +kernel
theorem dX9_book_102 : decode cX9_book 102 = .ok (.getfield 9, 3) := by decide +kernel
theorem dX9_book_105 : decode cX9_book 105 = .ok (.sipush 129, 3) := by decide +kernel
theorem dX9_book_108 : decode cX9_book 108 = .ok (.iaload, 1) := by decide +kernel
theorem dX9_book_109 : decode cX9_book 109 = .ok (.ireturn, 1) := by decide +kernel
theorem dX9_looked_0 : decode cX9_looked 0 = .ok (.iconst 0, 1) := by decide +kernel
theorem dX9_looked_1 : decode cX9_looked 1 = .ok (.istore_n 1, 1) := by decide +kernel
theorem dX9_looked_2 : decode cX9_looked 2 = .ok (.iload_n 1, 1) := by decide +kernel
theorem dX9_looked_3 : decode cX9_looked 3 = .ok (.aload_n 0, 1) := by decide +kernel
theorem dX9_looked_4 : decode cX9_looked 4 = .ok (.getfield 9, 3) := by decide +kernel
theorem dX9_looked_7 : decode cX9_looked 7 = .ok (.sipush 129, 3) := by decide +kernel
theorem dX9_looked_10 : decode cX9_looked 10 = .ok (.iaload, 1) := by decide +kernel
theorem dX9_looked_11 : decode cX9_looked 11 = .ok (.if_icmp .ge 43, 3) := by decide +kernel
theorem dX9_looked_14 : decode cX9_looked 14 = .ok (.aload_n 0, 1) := by decide +kernel
theorem dX9_looked_15 : decode cX9_looked 15 = .ok (.aload_n 0, 1) := by decide +kernel
theorem dX9_looked_16 : decode cX9_looked 16 = .ok (.getfield 9, 3) := by decide +kernel
theorem dX9_looked_19 : decode cX9_looked 19 = .ok (.sipush 130, 3) := by decide +kernel
theorem dX9_looked_22 : decode cX9_looked 22 = .ok (.iconst 2, 1) := by decide +kernel
theorem dX9_looked_23 : decode cX9_looked 23 = .ok (.iload_n 1, 1) := by decide +kernel
theorem dX9_looked_24 : decode cX9_looked 24 = .ok (.imul, 1) := by decide +kernel
theorem dX9_looked_25 : decode cX9_looked 25 = .ok (.iadd, 1) := by decide +kernel
theorem dX9_looked_26 : decode cX9_looked 26 = .ok (.iaload, 1) := by decide +kernel
theorem dX9_looked_27 : decode cX9_looked 27 = .ok (.iconst 3, 1) := by decide +kernel
theorem dX9_looked_28 : decode cX9_looked 28 = .ok (.invokevirtual 102, 3) := by decide +kernel
theorem dX9_looked_31 : decode cX9_looked 31 = .ok (.aload_n 0, 1) := by decide +kernel
theorem dX9_looked_32 : decode cX9_looked 32 = .ok (.getfield 9, 3) := by decide +kernel
theorem dX9_looked_35 : decode cX9_looked 35 = .ok (.sipush 131, 3) := by decide +kernel
theorem dX9_looked_38 : decode cX9_looked 38 = .ok (.iconst 2, 1) := by decide +kernel
theorem dX9_looked_39 : decode cX9_looked 39 = .ok (.iload_n 1, 1) := by decide +kernel
theorem dX9_looked_40 : decode cX9_looked 40 = .ok (.imul, 1) := by decide +kernel
theorem dX9_looked_41 : decode cX9_looked 41 = .ok (.iadd, 1) := by decide +kernel
theorem dX9_looked_42 : decode cX9_looked 42 = .ok (.iaload, 1) := by decide +kernel
theorem dX9_looked_43 : decode cX9_looked 43 = .ok (.if_icmp .eq 5, 3) := by decide +kernel
theorem dX9_looked_46 : decode cX9_looked 46 = .ok (.iload_n 1, 1) := by decide +kernel
theorem dX9_looked_47 : decode cX9_looked 47 = .ok (.ireturn, 1) := by decide +kernel
theorem dX9_looked_48 : decode cX9_looked 48 = .ok (.iinc 1 1, 3) := by decide +kernel
theorem dX9_looked_51 : decode cX9_looked 51 = .ok (.goto (-49), 3) := by decide +kernel
theorem dX9_looked_54 : decode cX9_looked 54 = .ok (.bipush (-5), 2) := by decide +kernel
theorem dX9_looked_56 : decode cX9_looked 56 = .ok (.ireturn, 1) := by decide +kernel
theorem dX9_body_0 : decode cX9_body 0 = .ok (.aload_n 0, 1) := by decide +kernel
theorem dX9_body_1 : decode cX9_body 1 = .ok (.getfield 281, 3) := by decide +kernel
theorem dX9_body_4 : decode cX9_body 4 = .ok (.bipush 20, 2) := by decide +kernel
theorem dX9_body_6 : decode cX9_body 6 = .ok (.if_icmp .ge 13, 3) := by decide +kernel
theorem dX9_body_9 : decode cX9_body 9 = .ok (.aload_n 0, 1) := by decide +kernel
theorem dX9_body_10 : decode cX9_body 10 = .ok (.getfield 74, 3) := by decide +kernel
theorem dX9_body_13 : decode cX9_body 13 = .ok (.aload_n 0, 1) := by decide +kernel
theorem dX9_body_14 : decode cX9_body 14 = .ok (.getfield 281, 3) := by decide +kernel
theorem dX9_body_17 : decode cX9_body 17 = .ok (.iload_n 1, 1) := by decide +kernel
theorem dX9_body_18 : decode cX9_body 18 = .ok (.iastore, 1) := by decide +kernel
theorem dX9_body_19 : decode cX9_body 19 = .ok (.aload_n 0, 1) := by decide +kernel
theorem dX9_body_20 : decode cX9_body 20 = .ok (.dup, 1) := by decide +kernel
theorem dX9_body_21 : decode cX9_body 21 = .ok (.getfield 281, 3) := by decide +kernel
theorem dX9_body_24 : decode cX9_body 24 = .ok (.iconst 1, 1) := by decide +kernel
theorem dX9_body_25 : decode cX9_body 25 = .ok (.iadd, 1) := by decide +kernel
theorem dX9_body_26 : decode cX9_body 26 = .ok (.putfield 281, 3) := by decide +kernel
theorem dX9_body_29 : decode cX9_body 29 = .ok (.iload_n 1, 1) := by decide +kernel
theorem dX9_body_30 : decode cX9_body 30 = .ok (.ireturn, 1) := by decide +kernel
theorem dX9_all_0 : decode cX9_all 0 = .ok (.aload_n 0, 1) := by decide +kernel
theorem dX9_all_1 : decode cX9_all 1 = .ok (.aload_n 0, 1) := by decide +kernel
theorem dX9_all_2 : decode cX9_all 2 = .ok (.iload_n 1, 1) := by decide +kernel
theorem dX9_all_3 : decode cX9_all 3 = .ok (.iconst 0, 1) := by decide +kernel
theorem dX9_all_4 : decode cX9_all 4 = .ok (.invokevirtual 102, 3) := by decide +kernel
theorem dX9_all_7 : decode cX9_all 7 = .ok (.iload_n 1, 1) := by decide +kernel
theorem dX9_all_8 : decode cX9_all 8 = .ok (.iload_n 2, 1) := by decide +kernel
theorem dX9_all_9 : decode cX9_all 9 = .ok (.iload_n 3, 1) := by decide +kernel
theorem dX9_all_10 : decode cX9_all 10 = .ok (.invokevirtual 284, 3) := by decide +kernel
theorem dX9_all_13 : decode cX9_all 13 = .ok (.ireturn, 1) := by decide +kernel
theorem dX9_byKind_0 : decode cX9_byKind 0 = .ok (.iload_n 1, 1) := by decide +kernel
theorem dX9_byKind_1 : decode cX9_byKind 1 = .ok (.istore 5, 2) := by decide +kernel
theorem dX9_byKind_3 : decode cX9_byKind 3 = .ok (.aload_n 0, 1) := by decide +kernel
theorem dX9_byKind_4 : decode cX9_byKind 4 = .ok (.getfield 71, 3) := by decide +kernel
theorem dX9_byKind_7 : decode cX9_byKind 7 = .ok (.iconst 3, 1) := by decide +kernel
theorem dX9_byKind_8 : decode cX9_byKind 8 = .ok (.iload 5, 2) := by decide +kernel
theorem dX9_byKind_10 : decode cX9_byKind 10 = .ok (.imul, 1) := by decide +kernel
theorem dX9_byKind_11 : decode cX9_byKind 11 = .ok (.iload_n 3, 1) := by decide +kernel
theorem dX9_byKind_12 : decode cX9_byKind 12 = .ok (.iadd, 1) := by decide +kernel
theorem dX9_byKind_13 : decode cX9_byKind 13 = .ok (.iaload, 1) := by decide +kernel
theorem dX9_byKind_14 : decode cX9_byKind 14 = .ok (.ifCond .ne 15, 3) := by decide +kernel
theorem dX9_byKind_17 : decode cX9_byKind 17 = .ok (.aload_n 0, 1) := by decide +kernel
theorem dX9_byKind_18 : decode cX9_byKind 18 = .ok (.getfield 68, 3) := by decide +kernel
theorem dX9_byKind_21 : decode cX9_byKind 21 = .ok (.iload 5, 2) := by decide +kernel
theorem dX9_byKind_23 : decode cX9_byKind 23 = .ok (.iaload, 1) := by decide +kernel
theorem dX9_byKind_24 : decode cX9_byKind 24 = .ok (.istore 5, 2) := by decide +kernel
theorem dX9_byKind_26 : decode cX9_byKind 26 = .ok (.goto (-23), 3) := by decide +kernel
theorem dX9_byKind_29 : decode cX9_byKind 29 = .ok (.aload_n 0, 1) := by decide +kernel
theorem dX9_byKind_30 : decode cX9_byKind 30 = .ok (.getfield 68, 3) := by decide +kernel
theorem dX9_byKind_33 : decode cX9_byKind 33 = .ok (.iload 5, 2) := by decide +kernel
theorem dX9_byKind_35 : decode cX9_byKind 35 = .ok (.iaload, 1) := by decide +kernel
theorem dX9_byKind_36 : decode cX9_byKind 36 = .ok (.istore 6, 2) := by decide +kernel
theorem dX9_byKind_38 : decode cX9_byKind 38 = .ok (.aload_n 0, 1) := by decide +kernel
theorem dX9_byKind_39 : decode cX9_byKind 39 = .ok (.aload_n 0, 1) := by decide +kernel
theorem dX9_byKind_40 : decode cX9_byKind 40 = .ok (.getfield 71, 3) := by decide +kernel
theorem dX9_byKind_43 : decode cX9_byKind 43 = .ok (.iconst 3, 1) := by decide +kernel
theorem dX9_byKind_44 : decode cX9_byKind 44 = .ok (.iload 5, 2) := by decide +kernel
theorem dX9_byKind_46 : decode cX9_byKind 46 = .ok (.imul, 1) := by decide +kernel
theorem dX9_byKind_47 : decode cX9_byKind 47 = .ok (.iload_n 3, 1) := by decide +kernel
theorem dX9_byKind_48 : decode cX9_byKind 48 = .ok (.iadd, 1) := by decide +kernel
theorem dX9_byKind_49 : decode cX9_byKind 49 = .ok (.iaload, 1) := by decide +kernel
theorem dX9_byKind_50 : decode cX9_byKind 50 = .ok (.invokevirtual 288, 3) := by decide +kernel
theorem dX9_byKind_53 : decode cX9_byKind 53 = .ok (.lookupswitch 228 #[(10, 91), (11, 96), (12, 112), (20, 123), (30, 137), (40, 150), (50, 169), (51, 181), (60, 194), (70, 207)], 91) := by decide +kernel
theorem dX9_byKind_144 : decode cX9_byKind 144 = .ok (.iload 4, 2) := by decide +kernel
theorem dX9_byKind_146 : decode cX9_byKind 146 = .ok (.iload_n 2, 1) := by decide +kernel
theorem dX9_byKind_147 : decode cX9_byKind 147 = .ok (.iadd, 1) := by decide +kernel
theorem dX9_byKind_148 : decode cX9_byKind 148 = .ok (.ireturn, 1) := by decide +kernel
theorem dX9_byKind_149 : decode cX9_byKind 149 = .ok (.aload_n 0, 1) := by decide +kernel
theorem dX9_byKind_150 : decode cX9_byKind 150 = .ok (.iload_n 2, 1) := by decide +kernel
theorem dX9_byKind_151 : decode cX9_byKind 151 = .ok (.iconst 0, 1) := by decide +kernel
theorem dX9_byKind_152 : decode cX9_byKind 152 = .ok (.iload 4, 2) := by decide +kernel
theorem dX9_byKind_154 : decode cX9_byKind 154 = .ok (.invokevirtual 291, 3) := by decide +kernel
theorem dX9_byKind_157 : decode cX9_byKind 157 = .ok (.aload_n 0, 1) := by decide +kernel
theorem dX9_byKind_158 : decode cX9_byKind 158 = .ok (.iload_n 2, 1) := by decide +kernel
theorem dX9_byKind_159 : decode cX9_byKind 159 = .ok (.iconst 1, 1) := by decide +kernel
theorem dX9_byKind_160 : decode cX9_byKind 160 = .ok (.invokevirtual 102, 3) := by decide +kernel
theorem dX9_byKind_163 : decode cX9_byKind 163 = .ok (.isub, 1) := by decide +kernel
theorem dX9_byKind_164 : decode cX9_byKind 164 = .ok (.ireturn, 1) := by decide +kernel
theorem dX9_byKind_165 : decode cX9_byKind 165 = .ok (.aload_n 0, 1) := by decide +kernel
theorem dX9_byKind_166 : decode cX9_byKind 166 = .ok (.iload_n 2, 1) := by decide +kernel
theorem dX9_byKind_167 : decode cX9_byKind 167 = .ok (.iconst 1, 1) := by decide +kernel
theorem dX9_byKind_168 : decode cX9_byKind 168 = .ok (.iload 4, 2) := by decide +kernel
theorem dX9_byKind_170 : decode cX9_byKind 170 = .ok (.invokevirtual 291, 3) := by decide +kernel
theorem dX9_byKind_173 : decode cX9_byKind 173 = .ok (.iconst 2, 1) := by decide +kernel
theorem dX9_byKind_174 : decode cX9_byKind 174 = .ok (.imul, 1) := by decide +kernel
theorem dX9_byKind_175 : decode cX9_byKind 175 = .ok (.ireturn, 1) := by decide +kernel
theorem dX9_byKind_176 : decode cX9_byKind 176 = .ok (.aload_n 0, 1) := by decide +kernel
theorem dX9_byKind_177 : decode cX9_byKind 177 = .ok (.iload 6, 2) := by decide +kernel
theorem dX9_byKind_179 : decode cX9_byKind 179 = .ok (.iload_n 2, 1) := by decide +kernel
theorem dX9_byKind_180 : decode cX9_byKind 180 = .ok (.iconst 1, 1) := by decide +kernel
theorem dX9_byKind_181 : decode cX9_byKind 181 = .ok (.iload 4, 2) := by decide +kernel
theorem dX9_byKind_183 : decode cX9_byKind 183 = .ok (.invokevirtual 284, 3) := by decide +kernel
theorem dX9_byKind_186 : decode cX9_byKind 186 = .ok (.bipush 6, 2) := by decide +kernel
theorem dX9_byKind_188 : decode cX9_byKind 188 = .ok (.ixor, 1) := by decide +kernel
theorem dX9_byKind_189 : decode cX9_byKind 189 = .ok (.ireturn, 1) := by decide +kernel
theorem dX9_byKind_190 : decode cX9_byKind 190 = .ok (.aload_n 0, 1) := by decide +kernel
theorem dX9_byKind_191 : decode cX9_byKind 191 = .ok (.iload 6, 2) := by decide +kernel
theorem dX9_byKind_193 : decode cX9_byKind 193 = .ok (.iload_n 2, 1) := by decide +kernel
theorem dX9_byKind_194 : decode cX9_byKind 194 = .ok (.iconst 0, 1) := by decide +kernel
theorem dX9_byKind_195 : decode cX9_byKind 195 = .ok (.iload 4, 2) := by decide +kernel
theorem dX9_byKind_197 : decode cX9_byKind 197 = .ok (.iconst 3, 1) := by decide +kernel
theorem dX9_byKind_198 : decode cX9_byKind 198 = .ok (.imul, 1) := by decide +kernel
theorem dX9_byKind_199 : decode cX9_byKind 199 = .ok (.invokevirtual 284, 3) := by decide +kernel
theorem dX9_byKind_202 : decode cX9_byKind 202 = .ok (.ireturn, 1) := by decide +kernel
theorem dX9_byKind_203 : decode cX9_byKind 203 = .ok (.aload_n 0, 1) := by decide +kernel
theorem dX9_byKind_204 : decode cX9_byKind 204 = .ok (.iload 6, 2) := by decide +kernel
theorem dX9_byKind_206 : decode cX9_byKind 206 = .ok (.iload_n 2, 1) := by decide +kernel
theorem dX9_byKind_207 : decode cX9_byKind 207 = .ok (.iconst 2, 1) := by decide +kernel
theorem dX9_byKind_208 : decode cX9_byKind 208 = .ok (.iload 4, 2) := by decide +kernel
theorem dX9_byKind_210 : decode cX9_byKind 210 = .ok (.invokevirtual 284, 3) := by decide +kernel
theorem dX9_byKind_213 : decode cX9_byKind 213 = .ok (.aload_n 0, 1) := by decide +kernel
theorem dX9_byKind_214 : decode cX9_byKind 214 = .ok (.iload_n 2, 1) := by decide +kernel
theorem dX9_byKind_215 : decode cX9_byKind 215 = .ok (.iconst 1, 1) := by decide +kernel
theorem dX9_byKind_216 : decode cX9_byKind 216 = .ok (.iconst 1, 1) := by decide +kernel
theorem dX9_byKind_217 : decode cX9_byKind 217 = .ok (.invokevirtual 291, 3) := by decide +kernel
theorem dX9_byKind_220 : decode cX9_byKind 220 = .ok (.iadd, 1) := by decide +kernel
theorem dX9_byKind_221 : decode cX9_byKind 221 = .ok (.ireturn, 1) := by decide +kernel
theorem dX9_byKind_222 : decode cX9_byKind 222 = .ok (.aload_n 0, 1) := by decide +kernel
theorem dX9_byKind_223 : decode cX9_byKind 223 = .ok (.iload 6, 2) := by decide +kernel
theorem dX9_byKind_225 : decode cX9_byKind 225 = .ok (.iload_n 2, 1) := by decide +kernel
theorem dX9_byKind_226 : decode cX9_byKind 226 = .ok (.iconst 0, 1) := by decide +kernel
theorem dX9_byKind_227 : decode cX9_byKind 227 = .ok (.iload 4, 2) := by decide +kernel
theorem dX9_byKind_229 : decode cX9_byKind 229 = .ok (.invokevirtual 284, 3) := by decide +kernel
theorem dX9_byKind_232 : decode cX9_byKind 232 = .ok (.ineg, 1) := by decide +kernel
theorem dX9_byKind_233 : decode cX9_byKind 233 = .ok (.ireturn, 1) := by decide +kernel
theorem dX9_byKind_234 : decode cX9_byKind 234 = .ok (.aload_n 0, 1) := by decide +kernel
theorem dX9_byKind_235 : decode cX9_byKind 235 = .ok (.iload 6, 2) := by decide +kernel
theorem dX9_byKind_237 : decode cX9_byKind 237 = .ok (.iload_n 2, 1) := by decide +kernel
theorem dX9_byKind_238 : decode cX9_byKind 238 = .ok (.iconst 1, 1) := by decide +kernel
theorem dX9_byKind_239 : decode cX9_byKind 239 = .ok (.iload 4, 2) := by decide +kernel
theorem dX9_byKind_241 : decode cX9_byKind 241 = .ok (.iconst 1, 1) := by decide +kernel
theorem dX9_byKind_242 : decode cX9_byKind 242 = .ok (.iadd, 1) := by decide +kernel
theorem dX9_byKind_243 : decode cX9_byKind 243 = .ok (.invokevirtual 284, 3) := by decide +kernel
theorem dX9_byKind_246 : decode cX9_byKind 246 = .ok (.ireturn, 1) := by decide +kernel
theorem dX9_byKind_247 : decode cX9_byKind 247 = .ok (.aload_n 0, 1) := by decide +kernel
theorem dX9_byKind_248 : decode cX9_byKind 248 = .ok (.iload 6, 2) := by decide +kernel
theorem dX9_byKind_250 : decode cX9_byKind 250 = .ok (.iload_n 2, 1) := by decide +kernel
theorem dX9_byKind_251 : decode cX9_byKind 251 = .ok (.iconst 2, 1) := by decide +kernel
theorem dX9_byKind_252 : decode cX9_byKind 252 = .ok (.iload 4, 2) := by decide +kernel
theorem dX9_byKind_254 : decode cX9_byKind 254 = .ok (.iload_n 2, 1) := by decide +kernel
theorem dX9_byKind_255 : decode cX9_byKind 255 = .ok (.isub, 1) := by decide +kernel
theorem dX9_byKind_256 : decode cX9_byKind 256 = .ok (.invokevirtual 284, 3) := by decide +kernel
theorem dX9_byKind_259 : decode cX9_byKind 259 = .ok (.ireturn, 1) := by decide +kernel
theorem dX9_byKind_260 : decode cX9_byKind 260 = .ok (.aload_n 0, 1) := by decide +kernel
theorem dX9_byKind_261 : decode cX9_byKind 261 = .ok (.iload 6, 2) := by decide +kernel
theorem dX9_byKind_263 : decode cX9_byKind 263 = .ok (.iload_n 2, 1) := by decide +kernel
theorem dX9_byKind_264 : decode cX9_byKind 264 = .ok (.iconst 1, 1) := by decide +kernel
theorem dX9_byKind_265 : decode cX9_byKind 265 = .ok (.iload 4, 2) := by decide +kernel
theorem dX9_byKind_267 : decode cX9_byKind 267 = .ok (.invokevirtual 284, 3) := by decide +kernel
theorem dX9_byKind_270 : decode cX9_byKind 270 = .ok (.aload_n 0, 1) := by decide +kernel
theorem dX9_byKind_271 : decode cX9_byKind 271 = .ok (.iload 6, 2) := by decide +kernel
theorem dX9_byKind_273 : decode cX9_byKind 273 = .ok (.iload_n 2, 1) := by decide +kernel
theorem dX9_byKind_274 : decode cX9_byKind 274 = .ok (.iconst 0, 1) := by decide +kernel
theorem dX9_byKind_275 : decode cX9_byKind 275 = .ok (.iconst 2, 1) := by decide +kernel
theorem dX9_byKind_276 : decode cX9_byKind 276 = .ok (.invokevirtual 284, 3) := by decide +kernel
theorem dX9_byKind_279 : decode cX9_byKind 279 = .ok (.iadd, 1) := by decide +kernel
theorem dX9_byKind_280 : decode cX9_byKind 280 = .ok (.ireturn, 1) := by decide +kernel
theorem dX9_byKind_281 : decode cX9_byKind 281 = .ok (.aload_n 0, 1) := by decide +kernel
theorem dX9_byKind_282 : decode cX9_byKind 282 = .ok (.iload 6, 2) := by decide +kernel
theorem dX9_byKind_284 : decode cX9_byKind 284 = .ok (.iload_n 2, 1) := by decide +kernel
theorem dX9_byKind_285 : decode cX9_byKind 285 = .ok (.iconst 0, 1) := by decide +kernel
theorem dX9_byKind_286 : decode cX9_byKind 286 = .ok (.iload 4, 2) := by decide +kernel
theorem dX9_byKind_288 : decode cX9_byKind 288 = .ok (.invokevirtual 284, 3) := by decide +kernel
theorem dX9_byKind_291 : decode cX9_byKind 291 = .ok (.aload_n 0, 1) := by decide +kernel
theorem dX9_byKind_292 : decode cX9_byKind 292 = .ok (.iload_n 2, 1) := by decide +kernel
theorem dX9_byKind_293 : decode cX9_byKind 293 = .ok (.iconst 1, 1) := by decide +kernel
theorem dX9_byKind_294 : decode cX9_byKind 294 = .ok (.invokevirtual 102, 3) := by decide +kernel
theorem dX9_byKind_297 : decode cX9_byKind 297 = .ok (.ixor, 1) := by decide +kernel
theorem dX9_byKind_298 : decode cX9_byKind 298 = .ok (.ireturn, 1) := by decide +kernel
theorem dX9_act_0 : decode cX9_act 0 = .ok (.aload_n 0, 1) := by decide +kernel
theorem dX9_act_1 : decode cX9_act 1 = .ok (.iconst 0, 1) := by decide +kernel
theorem dX9_act_2 : decode cX9_act 2 = .ok (.putfield 281, 3) := by decide +kernel
theorem dX9_act_5 : decode cX9_act 5 = .ok (.aload_n 0, 1) := by decide +kernel
theorem dX9_act_6 : decode cX9_act 6 = .ok (.iload_n 1, 1) := by decide +kernel
theorem dX9_act_7 : decode cX9_act 7 = .ok (.invokevirtual 114, 3) := by decide +kernel
theorem dX9_act_10 : decode cX9_act 10 = .ok (.ifCond .eq 22, 3) := by decide +kernel
theorem dX9_act_13 : decode cX9_act 13 = .ok (.iload_n 2, 1) := by decide +kernel
theorem dX9_act_14 : decode cX9_act 14 = .ok (.iconst 0, 1) := by decide +kernel
theorem dX9_act_15 : decode cX9_act 15 = .ok (.iconst 2, 1) := by decide +kernel
theorem dX9_act_16 : decode cX9_act 16 = .ok (.invokestatic 98, 3) := by decide +kernel
theorem dX9_act_19 : decode cX9_act 19 = .ok (.ifCond .eq 13, 3) := by decide +kernel
theorem dX9_act_22 : decode cX9_act 22 = .ok (.aload_n 0, 1) := by decide +kernel
theorem dX9_act_23 : decode cX9_act 23 = .ok (.iload_n 1, 1) := by decide +kernel
theorem dX9_act_24 : decode cX9_act 24 = .ok (.iload_n 2, 1) := by decide +kernel
theorem dX9_act_25 : decode cX9_act 25 = .ok (.iload_n 3, 1) := by decide +kernel
theorem dX9_act_26 : decode cX9_act 26 = .ok (.invokevirtual 291, 3) := by decide +kernel
theorem dX9_act_29 : decode cX9_act 29 = .ok (.goto 4, 3) := by decide +kernel
theorem dX9_act_32 : decode cX9_act 32 = .ok (.iconst 0, 1) := by decide +kernel
theorem dX9_act_33 : decode cX9_act 33 = .ok (.ireturn, 1) := by decide +kernel
theorem dX9_trace_0 : decode cX9_trace 0 = .ok (.iload_n 1, 1) := by decide +kernel
theorem dX9_trace_1 : decode cX9_trace 1 = .ok (.iconst 0, 1) := by decide +kernel
theorem dX9_trace_2 : decode cX9_trace 2 = .ok (.bipush 20, 2) := by decide +kernel
theorem dX9_trace_4 : decode cX9_trace 4 = .ok (.aload_n 0, 1) := by decide +kernel
theorem dX9_trace_5 : decode cX9_trace 5 = .ok (.getfield 281, 3) := by decide +kernel
theorem dX9_trace_8 : decode cX9_trace 8 = .ok (.invokestatic 260, 3) := by decide +kernel
theorem dX9_trace_11 : decode cX9_trace 11 = .ok (.iconst 1, 1) := by decide +kernel
theorem dX9_trace_12 : decode cX9_trace 12 = .ok (.isub, 1) := by decide +kernel
theorem dX9_trace_13 : decode cX9_trace 13 = .ok (.invokestatic 98, 3) := by decide +kernel
theorem dX9_trace_16 : decode cX9_trace 16 = .ok (.ifCond .eq 12, 3) := by decide +kernel
theorem dX9_trace_19 : decode cX9_trace 19 = .ok (.aload_n 0, 1) := by decide +kernel
theorem dX9_trace_20 : decode cX9_trace 20 = .ok (.getfield 74, 3) := by decide +kernel
theorem dX9_trace_23 : decode cX9_trace 23 = .ok (.iload_n 1, 1) := by decide +kernel
theorem dX9_trace_24 : decode cX9_trace 24 = .ok (.iaload, 1) := by decide +kernel
theorem dX9_trace_25 : decode cX9_trace 25 = .ok (.goto 4, 3) := by decide +kernel
theorem dX9_trace_28 : decode cX9_trace 28 = .ok (.iconst (-1), 1) := by decide +kernel
theorem dX9_trace_29 : decode cX9_trace 29 = .ok (.ireturn, 1) := by decide +kernel
theorem dX9_taken_0 : decode cX9_taken 0 = .ok (.iload_n 2, 1) := by decide +kernel
theorem dX9_taken_1 : decode cX9_taken 1 = .ok (.iconst 0, 1) := by decide +kernel
theorem dX9_taken_2 : decode cX9_taken 2 = .ok (.bipush 6, 2) := by decide +kernel
theorem dX9_taken_4 : decode cX9_taken 4 = .ok (.invokestatic 98, 3) := by decide +kernel
theorem dX9_taken_7 : decode cX9_taken 7 = .ok (.ifCond .ne 6, 3) := by decide +kernel
theorem dX9_taken_10 : decode cX9_taken 10 = .ok (.bipush (-2), 2) := by decide +kernel
theorem dX9_taken_12 : decode cX9_taken 12 = .ok (.ireturn, 1) := by decide +kernel
theorem dX9_taken_13 : decode cX9_taken 13 = .ok (.aload_n 0, 1) := by decide +kernel
theorem dX9_taken_14 : decode cX9_taken 14 = .ok (.iload_n 1, 1) := by decide +kernel
theorem dX9_taken_15 : decode cX9_taken 15 = .ok (.invokevirtual 114, 3) := by decide +kernel
theorem dX9_taken_18 : decode cX9_taken 18 = .ok (.ifCond .ne 6, 3) := by decide +kernel
theorem dX9_taken_21 : decode cX9_taken 21 = .ok (.bipush (-11), 2) := by decide +kernel
theorem dX9_taken_23 : decode cX9_taken 23 = .ok (.ireturn, 1) := by decide +kernel
theorem dX9_taken_24 : decode cX9_taken 24 = .ok (.aload_n 0, 1) := by decide +kernel
theorem dX9_taken_25 : decode cX9_taken 25 = .ok (.iload_n 1, 1) := by decide +kernel
theorem dX9_taken_26 : decode cX9_taken 26 = .ok (.iconst 0, 1) := by decide +kernel
theorem dX9_taken_27 : decode cX9_taken 27 = .ok (.invokevirtual 102, 3) := by decide +kernel
theorem dX9_taken_30 : decode cX9_taken 30 = .ok (.istore_n 3, 1) := by decide +kernel
theorem dX9_taken_31 : decode cX9_taken 31 = .ok (.iload_n 3, 1) := by decide +kernel
theorem dX9_taken_32 : decode cX9_taken 32 = .ok (.iconst (-1), 1) := by decide +kernel
theorem dX9_taken_33 : decode cX9_taken 33 = .ok (.if_icmp .eq 18, 3) := by decide +kernel
theorem dX9_taken_36 : decode cX9_taken 36 = .ok (.iload_n 3, 1) := by decide +kernel
theorem dX9_taken_37 : decode cX9_taken 37 = .ok (.iload_n 2, 1) := by decide +kernel
theorem dX9_taken_38 : decode cX9_taken 38 = .ok (.if_icmp .eq 13, 3) := by decide +kernel
theorem dX9_taken_41 : decode cX9_taken 41 = .ok (.aload_n 0, 1) := by decide +kernel
theorem dX9_taken_42 : decode cX9_taken 42 = .ok (.getfield 68, 3) := by decide +kernel
theorem dX9_taken_45 : decode cX9_taken 45 = .ok (.iload_n 3, 1) := by decide +kernel
theorem dX9_taken_46 : decode cX9_taken 46 = .ok (.iaload, 1) := by decide +kernel
theorem dX9_taken_47 : decode cX9_taken 47 = .ok (.istore_n 3, 1) := by decide +kernel
theorem dX9_taken_48 : decode cX9_taken 48 = .ok (.goto (-17), 3) := by decide +kernel
theorem dX9_taken_51 : decode cX9_taken 51 = .ok (.iload_n 3, 1) := by decide +kernel
theorem dX9_taken_52 : decode cX9_taken 52 = .ok (.iload_n 2, 1) := by decide +kernel
theorem dX9_taken_53 : decode cX9_taken 53 = .ok (.if_icmp .ne 12, 3) := by decide +kernel
theorem dX9_taken_56 : decode cX9_taken 56 = .ok (.aload_n 0, 1) := by decide +kernel
theorem dX9_taken_57 : decode cX9_taken 57 = .ok (.iload_n 1, 1) := by decide +kernel
theorem dX9_taken_58 : decode cX9_taken 58 = .ok (.iconst 0, 1) := by decide +kernel
theorem dX9_taken_59 : decode cX9_taken 59 = .ok (.invokevirtual 102, 3) := by decide +kernel
theorem dX9_taken_62 : decode cX9_taken 62 = .ok (.goto 5, 3) := by decide +kernel
theorem dX9_taken_65 : decode cX9_taken 65 = .ok (.bipush (-12), 2) := by decide +kernel
theorem dX9_taken_67 : decode cX9_taken 67 = .ok (.ireturn, 1) := by decide +kernel
theorem dX9_count_0 : decode cX9_count 0 = .ok (.iload_n 1, 1) := by decide +kernel
theorem dX9_count_1 : decode cX9_count 1 = .ok (.tableswitch 103 0 7 #[47, 55, 63, 68, 76, 84, 93, 98], 47) := by decide +kernel
theorem dX9_count_48 : decode cX9_count 48 = .ok (.aload_n 0, 1) := by decide +kernel
theorem dX9_count_49 : decode cX9_count 49 = .ok (.getfield 9, 3) := by decide +kernel
theorem dX9_count_52 : decode cX9_count 52 = .ok (.bipush 92, 2) := by decide +kernel
theorem dX9_count_54 : decode cX9_count 54 = .ok (.iaload, 1) := by decide +kernel
theorem dX9_count_55 : decode cX9_count 55 = .ok (.ireturn, 1) := by decide +kernel
theorem dX9_count_56 : decode cX9_count 56 = .ok (.aload_n 0, 1) := by decide +kernel
theorem dX9_count_57 : decode cX9_count 57 = .ok (.getfield 9, 3) := by decide +kernel
theorem dX9_count_60 : decode cX9_count 60 = .ok (.bipush 93, 2) := by decide +kernel
theorem dX9_count_62 : decode cX9_count 62 = .ok (.iaload, 1) := by decide +kernel
theorem dX9_count_63 : decode cX9_count 63 = .ok (.ireturn, 1) := by decide +kernel
theorem dX9_count_64 : decode cX9_count 64 = .ok (.aload_n 0, 1) := by decide +kernel
theorem dX9_count_65 : decode cX9_count 65 = .ok (.getfield 208, 3) := by decide +kernel
theorem dX9_count_68 : decode cX9_count 68 = .ok (.ireturn, 1) := by decide +kernel
theorem dX9_count_69 : decode cX9_count 69 = .ok (.aload_n 0, 1) := by decide +kernel
theorem dX9_count_70 : decode cX9_count 70 = .ok (.getfield 9, 3) := by decide +kernel
theorem dX9_count_73 : decode cX9_count 73 = .ok (.bipush 96, 2) := by decide +kernel
theorem dX9_count_75 : decode cX9_count 75 = .ok (.iaload, 1) := by decide +kernel
theorem dX9_count_76 : decode cX9_count 76 = .ok (.ireturn, 1) := by decide +kernel
theorem dX9_count_77 : decode cX9_count 77 = .ok (.aload_n 0, 1) := by decide +kernel
theorem dX9_count_78 : decode cX9_count 78 = .ok (.getfield 9, 3) := by decide +kernel
theorem dX9_count_81 : decode cX9_count 81 = .ok (.bipush 112, 2) := by decide +kernel
theorem dX9_count_83 : decode cX9_count 83 = .ok (.iaload, 1) := by decide +kernel
theorem dX9_count_84 : decode cX9_count 84 = .ok (.ireturn, 1) := by decide +kernel
theorem dX9_count_85 : decode cX9_count 85 = .ok (.aload_n 0, 1) := by decide +kernel
theorem dX9_count_86 : decode cX9_count 86 = .ok (.getfield 9, 3) := by decide +kernel
theorem dX9_count_89 : decode cX9_count 89 = .ok (.sipush 129, 3) := by decide +kernel
theorem dX9_count_92 : decode cX9_count 92 = .ok (.iaload, 1) := by decide +kernel
theorem dX9_count_93 : decode cX9_count 93 = .ok (.ireturn, 1) := by decide +kernel
theorem dX9_count_94 : decode cX9_count 94 = .ok (.aload_n 0, 1) := by decide +kernel
theorem dX9_count_95 : decode cX9_count 95 = .ok (.getfield 150, 3) := by decide +kernel
theorem dX9_count_98 : decode cX9_count 98 = .ok (.ireturn, 1) := by decide +kernel
theorem dX9_count_99 : decode cX9_count 99 = .ok (.aload_n 0, 1) := by decide +kernel
theorem dX9_count_100 : decode cX9_count 100 = .ok (.getfield 281, 3) := by decide +kernel
theorem dX9_count_103 : decode cX9_count 103 = .ok (.ireturn, 1) := by decide +kernel
theorem dX9_count_104 : decode cX9_count 104 = .ok (.bipush (-2), 2) := by decide +kernel
theorem dX9_count_106 : decode cX9_count 106 = .ok (.ireturn, 1) := by decide +kernel
theorem dX9_isTape_0 : decode cX9_isTape 0 = .ok (.iload_n 0, 1) := by decide +kernel
theorem dX9_isTape_1 : decode cX9_isTape 1 = .ok (.iconst 0, 1) := by decide +kernel
theorem dX9_isTape_2 : decode cX9_isTape 2 = .ok (.iconst 5, 1) := by decide +kernel
theorem dX9_isTape_3 : decode cX9_isTape 3 = .ok (.invokestatic 98, 3) := by decide +kernel
theorem dX9_isTape_6 : decode cX9_isTape 6 = .ok (.ireturn, 1) := by decide +kernel
theorem dX9_tape_0 : decode cX9_tape 0 = .ok (.iload_n 1, 1) := by decide +kernel
theorem dX9_tape_1 : decode cX9_tape 1 = .ok (.invokestatic 294, 3) := by decide +kernel
theorem dX9_tape_4 : decode cX9_tape 4 = .ok (.ifCond .ne 5, 3) := by decide +kernel
theorem dX9_tape_7 : decode cX9_tape 7 = .ok (.iconst (-1), 1) := by decide +kernel
theorem dX9_tape_8 : decode cX9_tape 8 = .ok (.ireturn, 1) := by decide +kernel
theorem dX9_tape_9 : decode cX9_tape 9 = .ok (.iload_n 2, 1) := by decide +kernel
theorem dX9_tape_10 : decode cX9_tape 10 = .ok (.iconst (-1), 1) := by decide +kernel
theorem dX9_tape_11 : decode cX9_tape 11 = .ok (.iconst 4, 1) := by decide +kernel
theorem dX9_tape_12 : decode cX9_tape 12 = .ok (.invokestatic 98, 3) := by decide +kernel
theorem dX9_tape_15 : decode cX9_tape 15 = .ok (.ifCond .eq 13, 3) := by decide +kernel
theorem dX9_tape_18 : decode cX9_tape 18 = .ok (.iload_n 2, 1) := by decide +kernel
theorem dX9_tape_19 : decode cX9_tape 19 = .ok (.ifCond .lt 12, 3) := by decide +kernel
theorem dX9_tape_22 : decode cX9_tape 22 = .ok (.iload_n 3, 1) := by decide +kernel
theorem dX9_tape_23 : decode cX9_tape 23 = .ok (.bipush 60, 2) := by decide +kernel
theorem dX9_tape_25 : decode cX9_tape 25 = .ok (.if_icmp .le 6, 3) := by decide +kernel
theorem dX9_tape_28 : decode cX9_tape 28 = .ok (.bipush (-2), 2) := by decide +kernel
theorem dX9_tape_30 : decode cX9_tape 30 = .ok (.ireturn, 1) := by decide +kernel
theorem dX9_tape_31 : decode cX9_tape 31 = .ok (.iload_n 2, 1) := by decide +kernel
theorem dX9_tape_32 : decode cX9_tape 32 = .ok (.ifCond .lt 10, 3) := by decide +kernel
theorem dX9_tape_35 : decode cX9_tape 35 = .ok (.iload_n 3, 1) := by decide +kernel
theorem dX9_tape_36 : decode cX9_tape 36 = .ok (.ifCond .ge 6, 3) := by decide +kernel
theorem dX9_tape_39 : decode cX9_tape 39 = .ok (.bipush (-14), 2) := by decide +kernel
theorem dX9_tape_41 : decode cX9_tape 41 = .ok (.ireturn, 1) := by decide +kernel
theorem dX9_tape_42 : decode cX9_tape 42 = .ok (.aload_n 0, 1) := by decide +kernel
theorem dX9_tape_43 : decode cX9_tape 43 = .ok (.getfield 77, 3) := by decide +kernel
theorem dX9_tape_46 : decode cX9_tape 46 = .ok (.iload_n 1, 1) := by decide +kernel
theorem dX9_tape_47 : decode cX9_tape 47 = .ok (.iload_n 2, 1) := by decide +kernel
theorem dX9_tape_48 : decode cX9_tape 48 = .ok (.iastore, 1) := by decide +kernel
theorem dX9_tape_49 : decode cX9_tape 49 = .ok (.aload_n 0, 1) := by decide +kernel
theorem dX9_tape_50 : decode cX9_tape 50 = .ok (.getfield 80, 3) := by decide +kernel
theorem dX9_tape_53 : decode cX9_tape 53 = .ok (.iload_n 1, 1) := by decide +kernel
theorem dX9_tape_54 : decode cX9_tape 54 = .ok (.iload_n 2, 1) := by decide +kernel
theorem dX9_tape_55 : decode cX9_tape 55 = .ok (.ifCond .ge 7, 3) := by decide +kernel
theorem dX9_tape_58 : decode cX9_tape 58 = .ok (.iconst 0, 1) := by decide +kernel
theorem dX9_tape_59 : decode cX9_tape 59 = .ok (.goto 4, 3) := by decide +kernel
theorem dX9_tape_62 : decode cX9_tape 62 = .ok (.iload_n 3, 1) := by decide +kernel
theorem dX9_tape_63 : decode cX9_tape 63 = .ok (.iastore, 1) := by decide +kernel
theorem dX9_tape_64 : decode cX9_tape 64 = .ok (.iconst 0, 1) := by decide +kernel
theorem dX9_tape_65 : decode cX9_tape 65 = .ok (.istore 4, 2) := by decide +kernel
theorem dX9_tape_67 : decode cX9_tape 67 = .ok (.iload 4, 2) := by decide +kernel
theorem dX9_tape_69 : decode cX9_tape 69 = .ok (.bipush 60, 2) := by decide +kernel
theorem dX9_tape_71 : decode cX9_tape 71 = .ok (.if_icmp .ge 22, 3) := by decide +kernel
theorem dX9_tape_74 : decode cX9_tape 74 = .ok (.aload_n 0, 1) := by decide +kernel
theorem dX9_tape_75 : decode cX9_tape 75 = .ok (.getfield 83, 3) := by decide +kernel
theorem dX9_tape_78 : decode cX9_tape 78 = .ok (.bipush 60, 2) := by decide +kernel
theorem dX9_tape_80 : decode cX9_tape 80 = .ok (.iload_n 1, 1) := by decide +kernel
theorem dX9_tape_81 : decode cX9_tape 81 = .ok (.imul, 1) := by decide +kernel
theorem dX9_tape_82 : decode cX9_tape 82 = .ok (.iload 4, 2) := by decide +kernel
theorem dX9_tape_84 : decode cX9_tape 84 = .ok (.iadd, 1) := by decide +kernel
theorem dX9_tape_85 : decode cX9_tape 85 = .ok (.lconst 0, 1) := by decide +kernel
theorem dX9_tape_86 : decode cX9_tape 86 = .ok (.lastore, 1) := by decide +kernel
theorem dX9_tape_87 : decode cX9_tape 87 = .ok (.iinc 4 1, 3) := by decide +kernel
theorem dX9_tape_90 : decode cX9_tape 90 = .ok (.goto (-23), 3) := by decide +kernel
theorem dX9_tape_93 : decode cX9_tape 93 = .ok (.iconst 1, 1) := by decide +kernel
theorem dX9_tape_94 : decode cX9_tape 94 = .ok (.ireturn, 1) := by decide +kernel
theorem dX9_item_0 : decode cX9_item 0 = .ok (.iload_n 1, 1) := by decide +kernel
theorem dX9_item_1 : decode cX9_item 1 = .ok (.invokestatic 294, 3) := by decide +kernel
theorem dX9_item_4 : decode cX9_item 4 = .ok (.ifCond .ne 5, 3) := by decide +kernel
theorem dX9_item_7 : decode cX9_item 7 = .ok (.iconst (-1), 1) := by decide +kernel
theorem dX9_item_8 : decode cX9_item 8 = .ok (.ireturn, 1) := by decide +kernel
theorem dX9_item_9 : decode cX9_item 9 = .ok (.aload_n 0, 1) := by decide +kernel
theorem dX9_item_10 : decode cX9_item 10 = .ok (.getfield 77, 3) := by decide +kernel
theorem dX9_item_13 : decode cX9_item 13 = .ok (.iload_n 1, 1) := by decide +kernel
theorem dX9_item_14 : decode cX9_item 14 = .ok (.iaload, 1) := by decide +kernel
theorem dX9_item_15 : decode cX9_item 15 = .ok (.ifCond .ge 6, 3) := by decide +kernel
theorem dX9_item_18 : decode cX9_item 18 = .ok (.bipush (-11), 2) := by decide +kernel
theorem dX9_item_20 : decode cX9_item 20 = .ok (.ireturn, 1) := by decide +kernel
theorem dX9_item_21 : decode cX9_item 21 = .ok (.iload_n 2, 1) := by decide +kernel
theorem dX9_item_22 : decode cX9_item 22 = .ok (.iconst 0, 1) := by decide +kernel
theorem dX9_item_23 : decode cX9_item 23 = .ok (.aload_n 0, 1) := by decide +kernel
theorem dX9_item_24 : decode cX9_item 24 = .ok (.getfield 80, 3) := by decide +kernel
theorem dX9_item_27 : decode cX9_item 27 = .ok (.iload_n 1, 1) := by decide +kernel
theorem dX9_item_28 : decode cX9_item 28 = .ok (.iaload, 1) := by decide +kernel
theorem dX9_item_29 : decode cX9_item 29 = .ok (.iconst 1, 1) := by decide +kernel
theorem dX9_item_30 : decode cX9_item 30 = .ok (.isub, 1) := by decide +kernel
theorem dX9_item_31 : decode cX9_item 31 = .ok (.invokestatic 98, 3) := by decide +kernel
theorem dX9_item_34 : decode cX9_item 34 = .ok (.ifCond .ne 6, 3) := by decide +kernel
theorem dX9_item_37 : decode cX9_item 37 = .ok (.bipush (-13), 2) := by decide +kernel
theorem dX9_item_39 : decode cX9_item 39 = .ok (.ireturn, 1) := by decide +kernel
theorem dX9_item_40 : decode cX9_item 40 = .ok (.aload_n 0, 1) := by decide +kernel
theorem dX9_item_41 : decode cX9_item 41 = .ok (.getfield 77, 3) := by decide +kernel
theorem dX9_item_44 : decode cX9_item 44 = .ok (.iload_n 1, 1) := by decide +kernel
theorem dX9_item_45 : decode cX9_item 45 = .ok (.iaload, 1) := by decide +kernel
theorem dX9_item_46 : decode cX9_item 46 = .ok (.istore 5, 2) := by decide +kernel
theorem dX9_item_48 : decode cX9_item 48 = .ok (.aload_n 0, 1) := by decide +kernel
theorem dX9_item_49 : decode cX9_item 49 = .ok (.getfield 83, 3) := by decide +kernel
theorem dX9_item_52 : decode cX9_item 52 = .ok (.bipush 60, 2) := by decide +kernel
theorem dX9_item_54 : decode cX9_item 54 = .ok (.iload_n 1, 1) := by decide +kernel
theorem dX9_item_55 : decode cX9_item 55 = .ok (.imul, 1) := by decide +kernel
theorem dX9_item_56 : decode cX9_item 56 = .ok (.iload_n 2, 1) := by decide +kernel
theorem dX9_item_57 : decode cX9_item 57 = .ok (.iadd, 1) := by decide +kernel
theorem dX9_item_58 : decode cX9_item 58 = .ok (.iload 5, 2) := by decide +kernel
theorem dX9_item_60 : decode cX9_item 60 = .ok (.ifCond .ne 10, 3) := by decide +kernel
theorem dX9_item_63 : decode cX9_item 63 = .ok (.lload_n 3, 1) := by decide +kernel
theorem dX9_item_64 : decode cX9_item 64 = .ok (.l2i, 1) := by decide +kernel
theorem dX9_item_65 : decode cX9_item 65 = .ok (.i2b, 1) := by decide +kernel
theorem dX9_item_66 : decode cX9_item 66 = .ok (.i2l, 1) := by decide +kernel
theorem dX9_item_67 : decode cX9_item 67 = .ok (.goto 49, 3) := by decide +kernel
theorem dX9_item_70 : decode cX9_item 70 = .ok (.iload 5, 2) := by decide +kernel
theorem dX9_item_72 : decode cX9_item 72 = .ok (.iconst 1, 1) := by decide +kernel
theorem dX9_item_73 : decode cX9_item 73 = .ok (.if_icmp .ne 10, 3) := by decide +kernel
theorem dX9_item_76 : decode cX9_item 76 = .ok (.lload_n 3, 1) := by decide +kernel
theorem dX9_item_77 : decode cX9_item 77 = .ok (.l2i, 1) := by decide +kernel
theorem dX9_item_78 : decode cX9_item 78 = .ok (.i2s, 1) := by decide +kernel
theorem dX9_item_79 : decode cX9_item 79 = .ok (.i2l, 1) := by decide +kernel
theorem dX9_item_80 : decode cX9_item 80 = .ok (.goto 36, 3) := by decide +kernel
theorem dX9_item_83 : decode cX9_item 83 = .ok (.iload 5, 2) := by decide +kernel
theorem dX9_item_85 : decode cX9_item 85 = .ok (.iconst 2, 1) := by decide +kernel
theorem dX9_item_86 : decode cX9_item 86 = .ok (.if_icmp .ne 9, 3) := by decide +kernel
theorem dX9_item_89 : decode cX9_item 89 = .ok (.lload_n 3, 1) := by decide +kernel
theorem dX9_item_90 : decode cX9_item 90 = .ok (.l2i, 1) := by decide +kernel
theorem dX9_item_91 : decode cX9_item 91 = .ok (.i2l, 1) := by decide +kernel
theorem dX9_item_92 : decode cX9_item 92 = .ok (.goto 24, 3) := by decide +kernel
theorem dX9_item_95 : decode cX9_item 95 = .ok (.iload 5, 2) := by decide +kernel
theorem dX9_item_97 : decode cX9_item 97 = .ok (.iconst 3, 1) := by decide +kernel
theorem dX9_item_98 : decode cX9_item 98 = .ok (.if_icmp .ne 7, 3) := by decide +kernel
theorem dX9_item_101 : decode cX9_item 101 = .ok (.lload_n 3, 1) := by decide +kernel
theorem dX9_item_102 : decode cX9_item 102 = .ok (.goto 14, 3) := by decide +kernel
theorem dX9_item_105 : decode cX9_item 105 = .ok (.lload_n 3, 1) := by decide +kernel
theorem dX9_item_106 : decode cX9_item 106 = .ok (.lconst 0, 1) := by decide +kernel
theorem dX9_item_107 : decode cX9_item 107 = .ok (.lcmp, 1) := by decide +kernel
theorem dX9_item_108 : decode cX9_item 108 = .ok (.ifCond .eq 7, 3) := by decide +kernel
theorem dX9_item_111 : decode cX9_item 111 = .ok (.lconst 1, 1) := by decide +kernel
theorem dX9_item_112 : decode cX9_item 112 = .ok (.goto 4, 3) := by decide +kernel
theorem dX9_item_115 : decode cX9_item 115 = .ok (.lconst 0, 1) := by decide +kernel
theorem dX9_item_116 : decode cX9_item 116 = .ok (.lastore, 1) := by decide +kernel
theorem dX9_item_117 : decode cX9_item 117 = .ok (.iconst 1, 1) := by decide +kernel
theorem dX9_item_118 : decode cX9_item 118 = .ok (.ireturn, 1) := by decide +kernel
theorem dX9_read_0 : decode cX9_read 0 = .ok (.iload_n 1, 1) := by decide +kernel
theorem dX9_read_1 : decode cX9_read 1 = .ok (.invokestatic 294, 3) := by decide +kernel
theorem dX9_read_4 : decode cX9_read 4 = .ok (.ifCond .eq 33, 3) := by decide +kernel
theorem dX9_read_7 : decode cX9_read 7 = .ok (.iload_n 2, 1) := by decide +kernel
theorem dX9_read_8 : decode cX9_read 8 = .ok (.iconst 0, 1) := by decide +kernel
theorem dX9_read_9 : decode cX9_read 9 = .ok (.aload_n 0, 1) := by decide +kernel
theorem dX9_read_10 : decode cX9_read 10 = .ok (.getfield 80, 3) := by decide +kernel
theorem dX9_read_13 : decode cX9_read 13 = .ok (.iload_n 1, 1) := by decide +kernel
theorem dX9_read_14 : decode cX9_read 14 = .ok (.iaload, 1) := by decide +kernel
theorem dX9_read_15 : decode cX9_read 15 = .ok (.iconst 1, 1) := by decide +kernel
theorem dX9_read_16 : decode cX9_read 16 = .ok (.isub, 1) := by decide +kernel
theorem dX9_read_17 : decode cX9_read 17 = .ok (.invokestatic 98, 3) := by decide +kernel
theorem dX9_read_20 : decode cX9_read 20 = .ok (.ifCond .eq 17, 3) := by decide +kernel
theorem dX9_read_23 : decode cX9_read 23 = .ok (.aload_n 0, 1) := by decide +kernel
theorem dX9_read_24 : decode cX9_read 24 = .ok (.getfield 83, 3) := by decide +kernel
theorem dX9_read_27 : decode cX9_read 27 = .ok (.bipush 60, 2) := by decide +kernel
theorem dX9_read_29 : decode cX9_read 29 = .ok (.iload_n 1, 1) := by decide +kernel
theorem dX9_read_30 : decode cX9_read 30 = .ok (.imul, 1) := by decide +kernel
theorem dX9_read_31 : decode cX9_read 31 = .ok (.iload_n 2, 1) := by decide +kernel
theorem dX9_read_32 : decode cX9_read 32 = .ok (.iadd, 1) := by decide +kernel
theorem dX9_read_33 : decode cX9_read 33 = .ok (.laload, 1) := by decide +kernel
theorem dX9_read_34 : decode cX9_read 34 = .ok (.goto 6, 3) := by decide +kernel
theorem dX9_read_37 : decode cX9_read 37 = .ok (.ldc2_w 271, 3) := by decide +kernel
theorem dX9_read_40 : decode cX9_read 40 = .ok (.lreturn, 1) := by decide +kernel
theorem dX9_shift_0 : decode cX9_shift 0 = .ok (.iload_n 1, 1) := by decide +kernel
theorem dX9_shift_1 : decode cX9_shift 1 = .ok (.invokestatic 294, 3) := by decide +kernel
theorem dX9_shift_4 : decode cX9_shift 4 = .ok (.ifCond .eq 10, 3) := by decide +kernel
theorem dX9_shift_7 : decode cX9_shift 7 = .ok (.iload_n 3, 1) := by decide +kernel
theorem dX9_shift_8 : decode cX9_shift 8 = .ok (.invokestatic 294, 3) := by decide +kernel
theorem dX9_shift_11 : decode cX9_shift 11 = .ok (.ifCond .ne 5, 3) := by decide +kernel
theorem dX9_shift_14 : decode cX9_shift 14 = .ok (.iconst (-1), 1) := by decide +kernel
theorem dX9_shift_15 : decode cX9_shift 15 = .ok (.ireturn, 1) := by decide +kernel
theorem dX9_shift_16 : decode cX9_shift 16 = .ok (.aload_n 0, 1) := by decide +kernel
theorem dX9_shift_17 : decode cX9_shift 17 = .ok (.getfield 77, 3) := by decide +kernel
theorem dX9_shift_20 : decode cX9_shift 20 = .ok (.iload_n 1, 1) := by decide +kernel
theorem dX9_shift_21 : decode cX9_shift 21 = .ok (.iaload, 1) := by decide +kernel
theorem dX9_shift_22 : decode cX9_shift 22 = .ok (.ifCond .lt 12, 3) := by decide +kernel
theorem dX9_shift_25 : decode cX9_shift 25 = .ok (.aload_n 0, 1) := by decide +kernel
theorem dX9_shift_26 : decode cX9_shift 26 = .ok (.getfield 77, 3) := by decide +kernel
theorem dX9_shift_29 : decode cX9_shift 29 = .ok (.iload_n 3, 1) := by decide +kernel
theorem dX9_shift_30 : decode cX9_shift 30 = .ok (.iaload, 1) := by decide +kernel
theorem dX9_shift_31 : decode cX9_shift 31 = .ok (.ifCond .ge 6, 3) := by decide +kernel
theorem dX9_shift_34 : decode cX9_shift 34 = .ok (.bipush (-11), 2) := by decide +kernel
theorem dX9_shift_36 : decode cX9_shift 36 = .ok (.ireturn, 1) := by decide +kernel
theorem dX9_shift_37 : decode cX9_shift 37 = .ok (.aload_n 0, 1) := by decide +kernel
theorem dX9_shift_38 : decode cX9_shift 38 = .ok (.getfield 77, 3) := by decide +kernel
theorem dX9_shift_41 : decode cX9_shift 41 = .ok (.iload_n 1, 1) := by decide +kernel
theorem dX9_shift_42 : decode cX9_shift 42 = .ok (.iaload, 1) := by decide +kernel
theorem dX9_shift_43 : decode cX9_shift 43 = .ok (.aload_n 0, 1) := by decide +kernel
theorem dX9_shift_44 : decode cX9_shift 44 = .ok (.getfield 77, 3) := by decide +kernel
theorem dX9_shift_47 : decode cX9_shift 47 = .ok (.iload_n 3, 1) := by decide +kernel
theorem dX9_shift_48 : decode cX9_shift 48 = .ok (.iaload, 1) := by decide +kernel
theorem dX9_shift_49 : decode cX9_shift 49 = .ok (.if_icmp .eq 6, 3) := by decide +kernel
theorem dX9_shift_52 : decode cX9_shift 52 = .ok (.bipush (-12), 2) := by decide +kernel
theorem dX9_shift_54 : decode cX9_shift 54 = .ok (.ireturn, 1) := by decide +kernel
theorem dX9_shift_55 : decode cX9_shift 55 = .ok (.iload 5, 2) := by decide +kernel
theorem dX9_shift_57 : decode cX9_shift 57 = .ok (.ifCond .lt 39, 3) := by decide +kernel
theorem dX9_shift_60 : decode cX9_shift 60 = .ok (.iload_n 2, 1) := by decide +kernel
theorem dX9_shift_61 : decode cX9_shift 61 = .ok (.ifCond .lt 35, 3) := by decide +kernel
theorem dX9_shift_64 : decode cX9_shift 64 = .ok (.iload 4, 2) := by decide +kernel
theorem dX9_shift_66 : decode cX9_shift 66 = .ok (.ifCond .lt 30, 3) := by decide +kernel
theorem dX9_shift_69 : decode cX9_shift 69 = .ok (.iload 5, 2) := by decide +kernel
theorem dX9_shift_71 : decode cX9_shift 71 = .ok (.aload_n 0, 1) := by decide +kernel
theorem dX9_shift_72 : decode cX9_shift 72 = .ok (.getfield 80, 3) := by decide +kernel
theorem dX9_shift_75 : decode cX9_shift 75 = .ok (.iload_n 1, 1) := by decide +kernel
theorem dX9_shift_76 : decode cX9_shift 76 = .ok (.iaload, 1) := by decide +kernel
theorem dX9_shift_77 : decode cX9_shift 77 = .ok (.iload_n 2, 1) := by decide +kernel
theorem dX9_shift_78 : decode cX9_shift 78 = .ok (.isub, 1) := by decide +kernel
theorem dX9_shift_79 : decode cX9_shift 79 = .ok (.if_icmp .gt 17, 3) := by decide +kernel
theorem dX9_shift_82 : decode cX9_shift 82 = .ok (.iload 5, 2) := by decide +kernel
theorem dX9_shift_84 : decode cX9_shift 84 = .ok (.aload_n 0, 1) := by decide +kernel
theorem dX9_shift_85 : decode cX9_shift 85 = .ok (.getfield 80, 3) := by decide +kernel
theorem dX9_shift_88 : decode cX9_shift 88 = .ok (.iload_n 3, 1) := by decide +kernel
theorem dX9_shift_89 : decode cX9_shift 89 = .ok (.iaload, 1) := by decide +kernel
theorem dX9_shift_90 : decode cX9_shift 90 = .ok (.iload 4, 2) := by decide +kernel
theorem dX9_shift_92 : decode cX9_shift 92 = .ok (.isub, 1) := by decide +kernel
theorem dX9_shift_93 : decode cX9_shift 93 = .ok (.if_icmp .le 6, 3) := by decide +kernel
theorem dX9_shift_96 : decode cX9_shift 96 = .ok (.bipush (-13), 2) := by decide +kernel
theorem dX9_shift_98 : decode cX9_shift 98 = .ok (.ireturn, 1) := by decide +kernel
theorem dX9_shift_99 : decode cX9_shift 99 = .ok (.iconst 0, 1) := by decide +kernel
theorem dX9_shift_100 : decode cX9_shift 100 = .ok (.istore 6, 2) := by decide +kernel
theorem dX9_shift_102 : decode cX9_shift 102 = .ok (.iload 6, 2) := by decide +kernel
theorem dX9_shift_104 : decode cX9_shift 104 = .ok (.iload 5, 2) := by decide +kernel
theorem dX9_shift_106 : decode cX9_shift 106 = .ok (.if_icmp .ge 30, 3) := by decide +kernel
theorem dX9_shift_109 : decode cX9_shift 109 = .ok (.aload_n 0, 1) := by decide +kernel
theorem dX9_shift_110 : decode cX9_shift 110 = .ok (.getfield 87, 3) := by decide +kernel
theorem dX9_shift_113 : decode cX9_shift 113 = .ok (.iload 6, 2) := by decide +kernel
theorem dX9_shift_115 : decode cX9_shift 115 = .ok (.aload_n 0, 1) := by decide +kernel
theorem dX9_shift_116 : decode cX9_shift 116 = .ok (.getfield 83, 3) := by decide +kernel
theorem dX9_shift_119 : decode cX9_shift 119 = .ok (.bipush 60, 2) := by decide +kernel
theorem dX9_shift_121 : decode cX9_shift 121 = .ok (.iload_n 1, 1) := by decide +kernel
theorem dX9_shift_122 : decode cX9_shift 122 = .ok (.imul, 1) := by decide +kernel
theorem dX9_shift_123 : decode cX9_shift 123 = .ok (.iload_n 2, 1) := by decide +kernel
theorem dX9_shift_124 : decode cX9_shift 124 = .ok (.iadd, 1) := by decide +kernel
theorem dX9_shift_125 : decode cX9_shift 125 = .ok (.iload 6, 2) := by decide +kernel
theorem dX9_shift_127 : decode cX9_shift 127 = .ok (.iadd, 1) := by decide +kernel
theorem dX9_shift_128 : decode cX9_shift 128 = .ok (.laload, 1) := by decide +kernel
theorem dX9_shift_129 : decode cX9_shift 129 = .ok (.lastore, 1) := by decide +kernel
theorem dX9_shift_130 : decode cX9_shift 130 = .ok (.iinc 6 1, 3) := by decide +kernel
theorem dX9_shift_133 : decode cX9_shift 133 = .ok (.goto (-31), 3) := by decide +kernel
theorem dX9_shift_136 : decode cX9_shift 136 = .ok (.iconst 0, 1) := by decide +kernel
theorem dX9_shift_137 : decode cX9_shift 137 = .ok (.istore 6, 2) := by decide +kernel
theorem dX9_shift_139 : decode cX9_shift 139 = .ok (.iload 6, 2) := by decide +kernel
theorem dX9_shift_141 : decode cX9_shift 141 = .ok (.iload 5, 2) := by decide +kernel
theorem dX9_shift_143 : decode cX9_shift 143 = .ok (.if_icmp .ge 31, 3) := by decide +kernel
theorem dX9_shift_146 : decode cX9_shift 146 = .ok (.aload_n 0, 1) := by decide +kernel
theorem dX9_shift_147 : decode cX9_shift 147 = .ok (.getfield 83, 3) := by decide +kernel
theorem dX9_shift_150 : decode cX9_shift 150 = .ok (.bipush 60, 2) := by decide +kernel
theorem dX9_shift_152 : decode cX9_shift 152 = .ok (.iload_n 3, 1) := by decide +kernel
theorem dX9_shift_153 : decode cX9_shift 153 = .ok (.imul, 1) := by decide +kernel
theorem dX9_shift_154 : decode cX9_shift 154 = .ok (.iload 4, 2) := by decide +kernel
theorem dX9_shift_156 : decode cX9_shift 156 = .ok (.iadd, 1) := by decide +kernel
theorem dX9_shift_157 : decode cX9_shift 157 = .ok (.iload 6, 2) := by decide +kernel
theorem dX9_shift_159 : decode cX9_shift 159 = .ok (.iadd, 1) := by decide +kernel
theorem dX9_shift_160 : decode cX9_shift 160 = .ok (.aload_n 0, 1) := by decide +kernel
theorem dX9_shift_161 : decode cX9_shift 161 = .ok (.getfield 87, 3) := by decide +kernel
theorem dX9_shift_164 : decode cX9_shift 164 = .ok (.iload 6, 2) := by decide +kernel
theorem dX9_shift_166 : decode cX9_shift 166 = .ok (.laload, 1) := by decide +kernel
theorem dX9_shift_167 : decode cX9_shift 167 = .ok (.lastore, 1) := by decide +kernel
theorem dX9_shift_168 : decode cX9_shift 168 = .ok (.iinc 6 1, 3) := by decide +kernel
theorem dX9_shift_171 : decode cX9_shift 171 = .ok (.goto (-32), 3) := by decide +kernel
theorem dX9_shift_174 : decode cX9_shift 174 = .ok (.iload 5, 2) := by decide +kernel
theorem dX9_shift_176 : decode cX9_shift 176 = .ok (.ireturn, 1) := by decide +kernel
theorem dX9_judge_0 : decode cX9_judge 0 = .ok (.iload_n 1, 1) := by decide +kernel
theorem dX9_judge_1 : decode cX9_judge 1 = .ok (.invokestatic 294, 3) := by decide +kernel
theorem dX9_judge_4 : decode cX9_judge 4 = .ok (.ifCond .ne 5, 3) := by decide +kernel
theorem dX9_judge_7 : decode cX9_judge 7 = .ok (.iconst (-1), 1) := by decide +kernel
theorem dX9_judge_8 : decode cX9_judge 8 = .ok (.ireturn, 1) := by decide +kernel
theorem dX9_judge_9 : decode cX9_judge 9 = .ok (.aload_n 0, 1) := by decide +kernel
theorem dX9_judge_10 : decode cX9_judge 10 = .ok (.getfield 77, 3) := by decide +kernel
theorem dX9_judge_13 : decode cX9_judge 13 = .ok (.iload_n 1, 1) := by decide +kernel
theorem dX9_judge_14 : decode cX9_judge 14 = .ok (.iaload, 1) := by decide +kernel
theorem dX9_judge_15 : decode cX9_judge 15 = .ok (.iconst (-1), 1) := by decide +kernel
theorem dX9_judge_16 : decode cX9_judge 16 = .ok (.if_icmp .eq 16, 3) := by decide +kernel
theorem dX9_judge_19 : decode cX9_judge 19 = .ok (.aload_n 0, 1) := by decide +kernel
theorem dX9_judge_20 : decode cX9_judge 20 = .ok (.getfield 77, 3) := by decide +kernel
theorem dX9_judge_23 : decode cX9_judge 23 = .ok (.iload_n 1, 1) := by decide +kernel
theorem dX9_judge_24 : decode cX9_judge 24 = .ok (.iaload, 1) := by decide +kernel
theorem dX9_judge_25 : decode cX9_judge 25 = .ok (.iconst 1, 1) := by decide +kernel
theorem dX9_judge_26 : decode cX9_judge 26 = .ok (.if_icmp .eq 6, 3) := by decide +kernel
theorem dX9_judge_29 : decode cX9_judge 29 = .ok (.bipush (-12), 2) := by decide +kernel
theorem dX9_judge_31 : decode cX9_judge 31 = .ok (.ireturn, 1) := by decide +kernel
theorem dX9_judge_32 : decode cX9_judge 32 = .ok (.iconst 0, 1) := by decide +kernel
theorem dX9_judge_33 : decode cX9_judge 33 = .ok (.istore_n 3, 1) := by decide +kernel
theorem dX9_judge_34 : decode cX9_judge 34 = .ok (.iload_n 3, 1) := by decide +kernel
theorem dX9_judge_35 : decode cX9_judge 35 = .ok (.aload_n 0, 1) := by decide +kernel
theorem dX9_judge_36 : decode cX9_judge 36 = .ok (.getfield 9, 3) := by decide +kernel
theorem dX9_judge_39 : decode cX9_judge 39 = .ok (.bipush 92, 2) := by decide +kernel
theorem dX9_judge_41 : decode cX9_judge 41 = .ok (.iaload, 1) := by decide +kernel
theorem dX9_judge_42 : decode cX9_judge 42 = .ok (.if_icmp .ge 64, 3) := by decide +kernel
theorem dX9_judge_45 : decode cX9_judge 45 = .ok (.iload_n 2, 1) := by decide +kernel
theorem dX9_judge_46 : decode cX9_judge 46 = .ok (.i2l, 1) := by decide +kernel
theorem dX9_judge_47 : decode cX9_judge 47 = .ok (.iload_n 3, 1) := by decide +kernel
theorem dX9_judge_48 : decode cX9_judge 48 = .ok (.i2l, 1) := by decide +kernel
theorem dX9_judge_49 : decode cX9_judge 49 = .ok (.ladd, 1) := by decide +kernel
theorem dX9_judge_50 : decode cX9_judge 50 = .ok (.lstore 4, 2) := by decide +kernel
theorem dX9_judge_52 : decode cX9_judge 52 = .ok (.iload_n 2, 1) := by decide +kernel
theorem dX9_judge_53 : decode cX9_judge 53 = .ok (.ifCond .lt 16, 3) := by decide +kernel
theorem dX9_judge_56 : decode cX9_judge 56 = .ok (.lload 4, 2) := by decide +kernel
theorem dX9_judge_58 : decode cX9_judge 58 = .ok (.aload_n 0, 1) := by decide +kernel
theorem dX9_judge_59 : decode cX9_judge 59 = .ok (.getfield 80, 3) := by decide +kernel
theorem dX9_judge_62 : decode cX9_judge 62 = .ok (.iload_n 1, 1) := by decide +kernel
theorem dX9_judge_63 : decode cX9_judge 63 = .ok (.iaload, 1) := by decide +kernel
theorem dX9_judge_64 : decode cX9_judge 64 = .ok (.i2l, 1) := by decide +kernel
theorem dX9_judge_65 : decode cX9_judge 65 = .ok (.lcmp, 1) := by decide +kernel
theorem dX9_judge_66 : decode cX9_judge 66 = .ok (.ifCond .lt 8, 3) := by decide +kernel
theorem dX9_judge_69 : decode cX9_judge 69 = .ok (.bipush 100, 2) := by decide +kernel
theorem dX9_judge_71 : decode cX9_judge 71 = .ok (.iload_n 3, 1) := by decide +kernel
theorem dX9_judge_72 : decode cX9_judge 72 = .ok (.iadd, 1) := by decide +kernel
theorem dX9_judge_73 : decode cX9_judge 73 = .ok (.ireturn, 1) := by decide +kernel
theorem dX9_judge_74 : decode cX9_judge 74 = .ok (.aload_n 0, 1) := by decide +kernel
theorem dX9_judge_75 : decode cX9_judge 75 = .ok (.getfield 83, 3) := by decide +kernel
theorem dX9_judge_78 : decode cX9_judge 78 = .ok (.bipush 60, 2) := by decide +kernel
theorem dX9_judge_80 : decode cX9_judge 80 = .ok (.iload_n 1, 1) := by decide +kernel
theorem dX9_judge_81 : decode cX9_judge 81 = .ok (.imul, 1) := by decide +kernel
theorem dX9_judge_82 : decode cX9_judge 82 = .ok (.lload 4, 2) := by decide +kernel
theorem dX9_judge_84 : decode cX9_judge 84 = .ok (.l2i, 1) := by decide +kernel
theorem dX9_judge_85 : decode cX9_judge 85 = .ok (.iadd, 1) := by decide +kernel
theorem dX9_judge_86 : decode cX9_judge 86 = .ok (.laload, 1) := by decide +kernel
theorem dX9_judge_87 : decode cX9_judge 87 = .ok (.aload_n 0, 1) := by decide +kernel
theorem dX9_judge_88 : decode cX9_judge 88 = .ok (.iload_n 3, 1) := by decide +kernel
theorem dX9_judge_89 : decode cX9_judge 89 = .ok (.iconst 5, 1) := by decide +kernel
theorem dX9_judge_90 : decode cX9_judge 90 = .ok (.invokevirtual 102, 3) := by decide +kernel
theorem dX9_judge_93 : decode cX9_judge 93 = .ok (.i2l, 1) := by decide +kernel
theorem dX9_judge_94 : decode cX9_judge 94 = .ok (.lcmp, 1) := by decide +kernel
theorem dX9_judge_95 : decode cX9_judge 95 = .ok (.ifCond .eq 5, 3) := by decide +kernel
theorem dX9_judge_98 : decode cX9_judge 98 = .ok (.iload_n 3, 1) := by decide +kernel
theorem dX9_judge_99 : decode cX9_judge 99 = .ok (.ireturn, 1) := by decide +kernel
theorem dX9_judge_100 : decode cX9_judge 100 = .ok (.iinc 3 1, 3) := by decide +kernel
theorem dX9_judge_103 : decode cX9_judge 103 = .ok (.goto (-69), 3) := by decide +kernel
theorem dX9_judge_106 : decode cX9_judge 106 = .ok (.bipush (-5), 2) := by decide +kernel
theorem dX9_judge_108 : decode cX9_judge 108 = .ok (.ireturn, 1) := by decide +kernel
end
