-- ===== PART A: goes FIRST, ahead of the names: the tables' words, and 'selects' of the private methods out of them =====
/-- a private method of a class that the tables say can be made, by its rows of tables_1 -/
def lw_okq (q : MethodName × Nat) : Prop := (q.1.cls ≠ "java/lang/invoke/MethodHandle" ∧ q.1.cls ≠ "java/lang/invoke/VarHandle") ∧ Cond.instantiable q.1.cls q.2 ∈ tables_1 ∧ Cond.privateMethod q.1 ∈ tables_1 ∧ Cond.instanceMethod q.1 ∈ tables_1
theorem lw_p0 : lw_okq (⟨"GateWatch$Sort", "readClause", "()Z"⟩, 10) := ⟨⟨by decide +kernel, by decide +kernel⟩, List.mem_of_getElem? (i := 252) (by decide +kernel), List.mem_of_getElem? (i := 311) (by decide +kernel), List.mem_of_getElem? (i := 312) (by decide +kernel)⟩
theorem lw_p1 : lw_okq (⟨"GateWatch$Sort", "readWord", "()I"⟩, 10) := ⟨⟨by decide +kernel, by decide +kernel⟩, List.mem_of_getElem? (i := 252) (by decide +kernel), List.mem_of_getElem? (i := 315) (by decide +kernel), List.mem_of_getElem? (i := 316) (by decide +kernel)⟩
theorem lw_p2 : lw_okq (⟨"GateWatch$Sort", "alikeWith", "(Ljava/lang/String;)I"⟩, 10) := ⟨⟨by decide +kernel, by decide +kernel⟩, List.mem_of_getElem? (i := 252) (by decide +kernel), List.mem_of_getElem? (i := 328) (by decide +kernel), List.mem_of_getElem? (i := 329) (by decide +kernel)⟩
theorem lw_p3 : lw_okq (⟨"GateWatch$Sort", "take", "(C)Z"⟩, 10) := ⟨⟨by decide +kernel, by decide +kernel⟩, List.mem_of_getElem? (i := 252) (by decide +kernel), List.mem_of_getElem? (i := 383) (by decide +kernel), List.mem_of_getElem? (i := 384) (by decide +kernel)⟩
theorem lw_p4 : lw_okq (⟨"GateWatch$Sort", "readNumber", "()Z"⟩, 10) := ⟨⟨by decide +kernel, by decide +kernel⟩, List.mem_of_getElem? (i := 252) (by decide +kernel), List.mem_of_getElem? (i := 387) (by decide +kernel), List.mem_of_getElem? (i := 388) (by decide +kernel)⟩
theorem lw_p5 : lw_okq (⟨"GateWatch$Sort", "readEither", "(I)Z"⟩, 10) := ⟨⟨by decide +kernel, by decide +kernel⟩, List.mem_of_getElem? (i := 252) (by decide +kernel), List.mem_of_getElem? (i := 391) (by decide +kernel), List.mem_of_getElem? (i := 392) (by decide +kernel)⟩
theorem lw_p6 : lw_okq (⟨"GateWatch$Sort", "readBoth", "(I)Z"⟩, 10) := ⟨⟨by decide +kernel, by decide +kernel⟩, List.mem_of_getElem? (i := 252) (by decide +kernel), List.mem_of_getElem? (i := 395) (by decide +kernel), List.mem_of_getElem? (i := 396) (by decide +kernel)⟩
theorem lw_p7 : lw_okq (⟨"GateWatch$Sort", "readPart", "(I)Z"⟩, 10) := ⟨⟨by decide +kernel, by decide +kernel⟩, List.mem_of_getElem? (i := 252) (by decide +kernel), List.mem_of_getElem? (i := 399) (by decide +kernel), List.mem_of_getElem? (i := 400) (by decide +kernel)⟩
theorem lw_p8 : lw_okq (⟨"GateWatch$Sort", "put", "(I)Z"⟩, 10) := ⟨⟨by decide +kernel, by decide +kernel⟩, List.mem_of_getElem? (i := 252) (by decide +kernel), List.mem_of_getElem? (i := 403) (by decide +kernel), List.mem_of_getElem? (i := 404) (by decide +kernel)⟩
theorem lw_p9 : lw_okq (⟨"GateWatch$Sort", "readTest", "()Z"⟩, 10) := ⟨⟨by decide +kernel, by decide +kernel⟩, List.mem_of_getElem? (i := 252) (by decide +kernel), List.mem_of_getElem? (i := 407) (by decide +kernel), List.mem_of_getElem? (i := 408) (by decide +kernel)⟩
theorem lw_p10 : lw_okq (⟨"GateWatch$Sort", "addClause", "(II)Z"⟩, 10) := ⟨⟨by decide +kernel, by decide +kernel⟩, List.mem_of_getElem? (i := 252) (by decide +kernel), List.mem_of_getElem? (i := 411) (by decide +kernel), List.mem_of_getElem? (i := 412) (by decide +kernel)⟩
theorem lw_p11 : lw_okq (⟨"GateWatch$Sort", "holds", "(IIII)Z"⟩, 10) := ⟨⟨by decide +kernel, by decide +kernel⟩, List.mem_of_getElem? (i := 252) (by decide +kernel), List.mem_of_getElem? (i := 426) (by decide +kernel), List.mem_of_getElem? (i := 427) (by decide +kernel)⟩
theorem lw_p12 : lw_okq (⟨"GateWatch$Outlook", "layPath", "(IIII)V"⟩, 9) := ⟨⟨by decide +kernel, by decide +kernel⟩, List.mem_of_getElem? (i := 131) (by decide +kernel), List.mem_of_getElem? (i := 484) (by decide +kernel), List.mem_of_getElem? (i := 485) (by decide +kernel)⟩
theorem lw_p13 : lw_okq (⟨"GateWatch", "whomNow", "(LGateWatch$Plan;)I"⟩, 7) := ⟨⟨by decide +kernel, by decide +kernel⟩, List.mem_of_getElem? (i := 24) (by decide +kernel), List.mem_of_getElem? (i := 646) (by decide +kernel), List.mem_of_getElem? (i := 647) (by decide +kernel)⟩
theorem lw_p14 : lw_okq (⟨"GateWatch$Tree", "begin", "(I)V"⟩, 11) := ⟨⟨by decide +kernel, by decide +kernel⟩, List.mem_of_getElem? (i := 179) (by decide +kernel), List.mem_of_getElem? (i := 742) (by decide +kernel), List.mem_of_getElem? (i := 743) (by decide +kernel)⟩
theorem lw_p15 : lw_okq (⟨"GateWatch$Tree", "fromDay", "(I)J"⟩, 11) := ⟨⟨by decide +kernel, by decide +kernel⟩, List.mem_of_getElem? (i := 179) (by decide +kernel), List.mem_of_getElem? (i := 748) (by decide +kernel), List.mem_of_getElem? (i := 749) (by decide +kernel)⟩
def lw_privs_1 : List (MethodName × Nat) := [(⟨"GateWatch$Sort", "readClause", "()Z"⟩, 10), (⟨"GateWatch$Sort", "readWord", "()I"⟩, 10), (⟨"GateWatch$Sort", "alikeWith", "(Ljava/lang/String;)I"⟩, 10), (⟨"GateWatch$Sort", "take", "(C)Z"⟩, 10), (⟨"GateWatch$Sort", "readNumber", "()Z"⟩, 10), (⟨"GateWatch$Sort", "readEither", "(I)Z"⟩, 10), (⟨"GateWatch$Sort", "readBoth", "(I)Z"⟩, 10), (⟨"GateWatch$Sort", "readPart", "(I)Z"⟩, 10), (⟨"GateWatch$Sort", "put", "(I)Z"⟩, 10), (⟨"GateWatch$Sort", "readTest", "()Z"⟩, 10), (⟨"GateWatch$Sort", "addClause", "(II)Z"⟩, 10), (⟨"GateWatch$Sort", "holds", "(IIII)Z"⟩, 10), (⟨"GateWatch$Outlook", "layPath", "(IIII)V"⟩, 9), (⟨"GateWatch", "whomNow", "(LGateWatch$Plan;)I"⟩, 7), (⟨"GateWatch$Tree", "begin", "(I)V"⟩, 11), (⟨"GateWatch$Tree", "fromDay", "(I)J"⟩, 11)]
theorem lw_r1 : ∀ q ∈ lw_privs_1, lw_okq q := List.forall_mem_cons.mpr ⟨lw_p0, List.forall_mem_cons.mpr ⟨lw_p1, List.forall_mem_cons.mpr ⟨lw_p2, List.forall_mem_cons.mpr ⟨lw_p3, List.forall_mem_cons.mpr ⟨lw_p4, List.forall_mem_cons.mpr ⟨lw_p5, List.forall_mem_cons.mpr ⟨lw_p6, List.forall_mem_cons.mpr ⟨lw_p7, List.forall_mem_cons.mpr ⟨lw_p8, List.forall_mem_cons.mpr ⟨lw_p9, List.forall_mem_cons.mpr ⟨lw_p10, List.forall_mem_cons.mpr ⟨lw_p11, List.forall_mem_cons.mpr ⟨lw_p12, List.forall_mem_cons.mpr ⟨lw_p13, List.forall_mem_cons.mpr ⟨lw_p14, List.forall_mem_cons.mpr ⟨lw_p15, fun _ h => absurd h List.not_mem_nil⟩⟩⟩⟩⟩⟩⟩⟩⟩⟩⟩⟩⟩⟩⟩⟩
theorem lw_p16 : lw_okq (⟨"GateWatch$Tree", "behindLooks", "(II)J"⟩, 11) := ⟨⟨by decide +kernel, by decide +kernel⟩, List.mem_of_getElem? (i := 179) (by decide +kernel), List.mem_of_getElem? (i := 753) (by decide +kernel), List.mem_of_getElem? (i := 754) (by decide +kernel)⟩
theorem lw_p17 : lw_okq (⟨"GateWatch$Tree", "behindDay", "(I)J"⟩, 11) := ⟨⟨by decide +kernel, by decide +kernel⟩, List.mem_of_getElem? (i := 179) (by decide +kernel), List.mem_of_getElem? (i := 757) (by decide +kernel), List.mem_of_getElem? (i := 758) (by decide +kernel)⟩
theorem lw_p18 : lw_okq (⟨"GateWatch$Tree", "goOver", "(I)V"⟩, 11) := ⟨⟨by decide +kernel, by decide +kernel⟩, List.mem_of_getElem? (i := 179) (by decide +kernel), List.mem_of_getElem? (i := 761) (by decide +kernel), List.mem_of_getElem? (i := 762) (by decide +kernel)⟩
theorem lw_p19 : lw_okq (⟨"GateWatch$Tree", "behindBestLooks", "(I)J"⟩, 11) := ⟨⟨by decide +kernel, by decide +kernel⟩, List.mem_of_getElem? (i := 179) (by decide +kernel), List.mem_of_getElem? (i := 777) (by decide +kernel), List.mem_of_getElem? (i := 778) (by decide +kernel)⟩
theorem lw_p20 : lw_okq (⟨"GateWatch$Tree", "gatherSets", "()V"⟩, 11) := ⟨⟨by decide +kernel, by decide +kernel⟩, List.mem_of_getElem? (i := 179) (by decide +kernel), List.mem_of_getElem? (i := 790) (by decide +kernel), List.mem_of_getElem? (i := 791) (by decide +kernel)⟩
theorem lw_p21 : lw_okq (⟨"GateWatch$Tree", "showLikely", "(II)V"⟩, 11) := ⟨⟨by decide +kernel, by decide +kernel⟩, List.mem_of_getElem? (i := 179) (by decide +kernel), List.mem_of_getElem? (i := 826) (by decide +kernel), List.mem_of_getElem? (i := 827) (by decide +kernel)⟩
theorem lw_p22 : lw_okq (⟨"GateWatch$Book", "lookAt", "(ILGateWatch$Sort;)J"⟩, 18) := ⟨⟨by decide +kernel, by decide +kernel⟩, List.mem_of_getElem? (i := 32) (by decide +kernel), List.mem_of_getElem? (i := 841) (by decide +kernel), List.mem_of_getElem? (i := 842) (by decide +kernel)⟩
theorem lw_p23 : lw_okq (⟨"GateWatch$Tree", "spellRow", "(I)V"⟩, 11) := ⟨⟨by decide +kernel, by decide +kernel⟩, List.mem_of_getElem? (i := 179) (by decide +kernel), List.mem_of_getElem? (i := 861) (by decide +kernel), List.mem_of_getElem? (i := 862) (by decide +kernel)⟩
theorem lw_p24 : lw_okq (⟨"GateWatch$Book", "copyThing", "(LGateWatch$Book;I)V"⟩, 18) := ⟨⟨by decide +kernel, by decide +kernel⟩, List.mem_of_getElem? (i := 32) (by decide +kernel), List.mem_of_getElem? (i := 996) (by decide +kernel), List.mem_of_getElem? (i := 997) (by decide +kernel)⟩
theorem lw_p25 : lw_okq (⟨"GateWatchModel", "clause", "()V"⟩, 34) := ⟨⟨by decide +kernel, by decide +kernel⟩, List.mem_of_getElem? (i := 1008) (by decide +kernel), List.mem_of_getElem? (i := 1128) (by decide +kernel), List.mem_of_getElem? (i := 1129) (by decide +kernel)⟩
theorem lw_p26 : lw_okq (⟨"GateWatchModel", "here", "()I"⟩, 34) := ⟨⟨by decide +kernel, by decide +kernel⟩, List.mem_of_getElem? (i := 1008) (by decide +kernel), List.mem_of_getElem? (i := 1132) (by decide +kernel), List.mem_of_getElem? (i := 1133) (by decide +kernel)⟩
theorem lw_p27 : lw_okq (⟨"GateWatchModel", "changes", "(I)V"⟩, 34) := ⟨⟨by decide +kernel, by decide +kernel⟩, List.mem_of_getElem? (i := 1008) (by decide +kernel), List.mem_of_getElem? (i := 1136) (by decide +kernel), List.mem_of_getElem? (i := 1137) (by decide +kernel)⟩
theorem lw_p28 : lw_okq (⟨"GateWatchModel", "spells", "(Ljava/lang/String;)V"⟩, 34) := ⟨⟨by decide +kernel, by decide +kernel⟩, List.mem_of_getElem? (i := 1008) (by decide +kernel), List.mem_of_getElem? (i := 1142) (by decide +kernel), List.mem_of_getElem? (i := 1143) (by decide +kernel)⟩
theorem lw_p29 : lw_okq (⟨"GateWatchModel", "must", "(I)V"⟩, 34) := ⟨⟨by decide +kernel, by decide +kernel⟩, List.mem_of_getElem? (i := 1008) (by decide +kernel), List.mem_of_getElem? (i := 1148) (by decide +kernel), List.mem_of_getElem? (i := 1149) (by decide +kernel)⟩
theorem lw_p30 : lw_okq (⟨"GateWatchModel", "figures", "()I"⟩, 34) := ⟨⟨by decide +kernel, by decide +kernel⟩, List.mem_of_getElem? (i := 1008) (by decide +kernel), List.mem_of_getElem? (i := 1152) (by decide +kernel), List.mem_of_getElem? (i := 1153) (by decide +kernel)⟩
theorem lw_p31 : lw_okq (⟨"GateWatchModel", "some", "()V"⟩, 34) := ⟨⟨by decide +kernel, by decide +kernel⟩, List.mem_of_getElem? (i := 1008) (by decide +kernel), List.mem_of_getElem? (i := 1156) (by decide +kernel), List.mem_of_getElem? (i := 1157) (by decide +kernel)⟩
def lw_privs_2 : List (MethodName × Nat) := [(⟨"GateWatch$Tree", "behindLooks", "(II)J"⟩, 11), (⟨"GateWatch$Tree", "behindDay", "(I)J"⟩, 11), (⟨"GateWatch$Tree", "goOver", "(I)V"⟩, 11), (⟨"GateWatch$Tree", "behindBestLooks", "(I)J"⟩, 11), (⟨"GateWatch$Tree", "gatherSets", "()V"⟩, 11), (⟨"GateWatch$Tree", "showLikely", "(II)V"⟩, 11), (⟨"GateWatch$Book", "lookAt", "(ILGateWatch$Sort;)J"⟩, 18), (⟨"GateWatch$Tree", "spellRow", "(I)V"⟩, 11), (⟨"GateWatch$Book", "copyThing", "(LGateWatch$Book;I)V"⟩, 18), (⟨"GateWatchModel", "clause", "()V"⟩, 34), (⟨"GateWatchModel", "here", "()I"⟩, 34), (⟨"GateWatchModel", "changes", "(I)V"⟩, 34), (⟨"GateWatchModel", "spells", "(Ljava/lang/String;)V"⟩, 34), (⟨"GateWatchModel", "must", "(I)V"⟩, 34), (⟨"GateWatchModel", "figures", "()I"⟩, 34), (⟨"GateWatchModel", "some", "()V"⟩, 34)]
theorem lw_r2 : ∀ q ∈ lw_privs_2, lw_okq q := List.forall_mem_cons.mpr ⟨lw_p16, List.forall_mem_cons.mpr ⟨lw_p17, List.forall_mem_cons.mpr ⟨lw_p18, List.forall_mem_cons.mpr ⟨lw_p19, List.forall_mem_cons.mpr ⟨lw_p20, List.forall_mem_cons.mpr ⟨lw_p21, List.forall_mem_cons.mpr ⟨lw_p22, List.forall_mem_cons.mpr ⟨lw_p23, List.forall_mem_cons.mpr ⟨lw_p24, List.forall_mem_cons.mpr ⟨lw_p25, List.forall_mem_cons.mpr ⟨lw_p26, List.forall_mem_cons.mpr ⟨lw_p27, List.forall_mem_cons.mpr ⟨lw_p28, List.forall_mem_cons.mpr ⟨lw_p29, List.forall_mem_cons.mpr ⟨lw_p30, List.forall_mem_cons.mpr ⟨lw_p31, fun _ h => absurd h List.not_mem_nil⟩⟩⟩⟩⟩⟩⟩⟩⟩⟩⟩⟩⟩⟩⟩⟩
theorem lw_p32 : lw_okq (⟨"GateWatchModel", "every", "()V"⟩, 34) := ⟨⟨by decide +kernel, by decide +kernel⟩, List.mem_of_getElem? (i := 1008) (by decide +kernel), List.mem_of_getElem? (i := 1160) (by decide +kernel), List.mem_of_getElem? (i := 1161) (by decide +kernel)⟩
theorem lw_p33 : lw_okq (⟨"GateWatchModel", "factor", "()V"⟩, 34) := ⟨⟨by decide +kernel, by decide +kernel⟩, List.mem_of_getElem? (i := 1008) (by decide +kernel), List.mem_of_getElem? (i := 1164) (by decide +kernel), List.mem_of_getElem? (i := 1165) (by decide +kernel)⟩
theorem lw_p34 : lw_okq (⟨"GateWatchModel", "emits", "(I)V"⟩, 34) := ⟨⟨by decide +kernel, by decide +kernel⟩, List.mem_of_getElem? (i := 1008) (by decide +kernel), List.mem_of_getElem? (i := 1168) (by decide +kernel), List.mem_of_getElem? (i := 1169) (by decide +kernel)⟩
theorem lw_p35 : lw_okq (⟨"GateWatchModel", "tells", "(ILjava/lang/String;)V"⟩, 34) := ⟨⟨by decide +kernel, by decide +kernel⟩, List.mem_of_getElem? (i := 1008) (by decide +kernel), List.mem_of_getElem? (i := 1173) (by decide +kernel), List.mem_of_getElem? (i := 1174) (by decide +kernel)⟩
theorem lw_p36 : lw_okq (⟨"GateWatchModel", "isSort", "(I)Z"⟩, 34) := ⟨⟨by decide +kernel, by decide +kernel⟩, List.mem_of_getElem? (i := 1008) (by decide +kernel), List.mem_of_getElem? (i := 1184) (by decide +kernel), List.mem_of_getElem? (i := 1185) (by decide +kernel)⟩
theorem lw_p37 : lw_okq (⟨"GateWatchModel", "summed", "(IIII)I"⟩, 34) := ⟨⟨by decide +kernel, by decide +kernel⟩, List.mem_of_getElem? (i := 1008) (by decide +kernel), List.mem_of_getElem? (i := 1188) (by decide +kernel), List.mem_of_getElem? (i := 1189) (by decide +kernel)⟩
theorem lw_p38 : lw_okq (⟨"GateWatchModel", "isThing", "(I)Z"⟩, 34) := ⟨⟨by decide +kernel, by decide +kernel⟩, List.mem_of_getElem? (i := 1008) (by decide +kernel), List.mem_of_getElem? (i := 1201) (by decide +kernel), List.mem_of_getElem? (i := 1202) (by decide +kernel)⟩
theorem lw_p39 : lw_okq (⟨"GateWatchModel", "over", "()V"⟩, 34) := ⟨⟨by decide +kernel, by decide +kernel⟩, List.mem_of_getElem? (i := 1008) (by decide +kernel), List.mem_of_getElem? (i := 1209) (by decide +kernel), List.mem_of_getElem? (i := 1210) (by decide +kernel)⟩
theorem lw_p40 : lw_okq (⟨"GateWatchModel", "overOf", "(III)I"⟩, 34) := ⟨⟨by decide +kernel, by decide +kernel⟩, List.mem_of_getElem? (i := 1008) (by decide +kernel), List.mem_of_getElem? (i := 1213) (by decide +kernel), List.mem_of_getElem? (i := 1214) (by decide +kernel)⟩
theorem lw_p41 : lw_okq (⟨"GateWatchModel", "illOf", "(II)I"⟩, 34) := ⟨⟨by decide +kernel, by decide +kernel⟩, List.mem_of_getElem? (i := 1008) (by decide +kernel), List.mem_of_getElem? (i := 1217) (by decide +kernel), List.mem_of_getElem? (i := 1218) (by decide +kernel)⟩
theorem lw_p42 : lw_okq (⟨"GateWatchModel", "healOf", "(II)I"⟩, 34) := ⟨⟨by decide +kernel, by decide +kernel⟩, List.mem_of_getElem? (i := 1008) (by decide +kernel), List.mem_of_getElem? (i := 1222) (by decide +kernel), List.mem_of_getElem? (i := 1223) (by decide +kernel)⟩
theorem lw_p43 : lw_okq (⟨"GateWatchModel", "rowsOf", "(I)V"⟩, 34) := ⟨⟨by decide +kernel, by decide +kernel⟩, List.mem_of_getElem? (i := 1008) (by decide +kernel), List.mem_of_getElem? (i := 1238) (by decide +kernel), List.mem_of_getElem? (i := 1239) (by decide +kernel)⟩
theorem lw_p44 : lw_okq (⟨"GateWatchModel", "value", "(II)I"⟩, 34) := ⟨⟨by decide +kernel, by decide +kernel⟩, List.mem_of_getElem? (i := 1008) (by decide +kernel), List.mem_of_getElem? (i := 1242) (by decide +kernel), List.mem_of_getElem? (i := 1243) (by decide +kernel)⟩
theorem lw_p45 : lw_okq (⟨"GateWatchModel", "bestBy", "(II)J"⟩, 34) := ⟨⟨by decide +kernel, by decide +kernel⟩, List.mem_of_getElem? (i := 1008) (by decide +kernel), List.mem_of_getElem? (i := 1246) (by decide +kernel), List.mem_of_getElem? (i := 1247) (by decide +kernel)⟩
theorem lw_p46 : lw_okq (⟨"GateWatchModel", "bestOf", "(II)J"⟩, 34) := ⟨⟨by decide +kernel, by decide +kernel⟩, List.mem_of_getElem? (i := 1008) (by decide +kernel), List.mem_of_getElem? (i := 1250) (by decide +kernel), List.mem_of_getElem? (i := 1251) (by decide +kernel)⟩
theorem lw_p47 : lw_okq (⟨"GateWatchModel", "brings", "(II)J"⟩, 34) := ⟨⟨by decide +kernel, by decide +kernel⟩, List.mem_of_getElem? (i := 1008) (by decide +kernel), List.mem_of_getElem? (i := 1254) (by decide +kernel), List.mem_of_getElem? (i := 1255) (by decide +kernel)⟩
def lw_privs_3 : List (MethodName × Nat) := [(⟨"GateWatchModel", "every", "()V"⟩, 34), (⟨"GateWatchModel", "factor", "()V"⟩, 34), (⟨"GateWatchModel", "emits", "(I)V"⟩, 34), (⟨"GateWatchModel", "tells", "(ILjava/lang/String;)V"⟩, 34), (⟨"GateWatchModel", "isSort", "(I)Z"⟩, 34), (⟨"GateWatchModel", "summed", "(IIII)I"⟩, 34), (⟨"GateWatchModel", "isThing", "(I)Z"⟩, 34), (⟨"GateWatchModel", "over", "()V"⟩, 34), (⟨"GateWatchModel", "overOf", "(III)I"⟩, 34), (⟨"GateWatchModel", "illOf", "(II)I"⟩, 34), (⟨"GateWatchModel", "healOf", "(II)I"⟩, 34), (⟨"GateWatchModel", "rowsOf", "(I)V"⟩, 34), (⟨"GateWatchModel", "value", "(II)I"⟩, 34), (⟨"GateWatchModel", "bestBy", "(II)J"⟩, 34), (⟨"GateWatchModel", "bestOf", "(II)J"⟩, 34), (⟨"GateWatchModel", "brings", "(II)J"⟩, 34)]
theorem lw_r3 : ∀ q ∈ lw_privs_3, lw_okq q := List.forall_mem_cons.mpr ⟨lw_p32, List.forall_mem_cons.mpr ⟨lw_p33, List.forall_mem_cons.mpr ⟨lw_p34, List.forall_mem_cons.mpr ⟨lw_p35, List.forall_mem_cons.mpr ⟨lw_p36, List.forall_mem_cons.mpr ⟨lw_p37, List.forall_mem_cons.mpr ⟨lw_p38, List.forall_mem_cons.mpr ⟨lw_p39, List.forall_mem_cons.mpr ⟨lw_p40, List.forall_mem_cons.mpr ⟨lw_p41, List.forall_mem_cons.mpr ⟨lw_p42, List.forall_mem_cons.mpr ⟨lw_p43, List.forall_mem_cons.mpr ⟨lw_p44, List.forall_mem_cons.mpr ⟨lw_p45, List.forall_mem_cons.mpr ⟨lw_p46, List.forall_mem_cons.mpr ⟨lw_p47, fun _ h => absurd h List.not_mem_nil⟩⟩⟩⟩⟩⟩⟩⟩⟩⟩⟩⟩⟩⟩⟩⟩
theorem lw_p48 : lw_okq (⟨"GateWatchModel", "numberOf", "(II)I"⟩, 34) := ⟨⟨by decide +kernel, by decide +kernel⟩, List.mem_of_getElem? (i := 1008) (by decide +kernel), List.mem_of_getElem? (i := 1263) (by decide +kernel), List.mem_of_getElem? (i := 1264) (by decide +kernel)⟩
theorem lw_p49 : lw_okq (⟨"GateWatchModel", "isNoWorse", "(II)Z"⟩, 34) := ⟨⟨by decide +kernel, by decide +kernel⟩, List.mem_of_getElem? (i := 1008) (by decide +kernel), List.mem_of_getElem? (i := 1267) (by decide +kernel), List.mem_of_getElem? (i := 1268) (by decide +kernel)⟩
theorem lw_p50 : lw_okq (⟨"GateWatchModel", "isPlan", "(I)Z"⟩, 34) := ⟨⟨by decide +kernel, by decide +kernel⟩, List.mem_of_getElem? (i := 1008) (by decide +kernel), List.mem_of_getElem? (i := 1287) (by decide +kernel), List.mem_of_getElem? (i := 1288) (by decide +kernel)⟩
theorem lw_p51 : lw_okq (⟨"GateWatchModel", "whomOn", "(II)I"⟩, 34) := ⟨⟨by decide +kernel, by decide +kernel⟩, List.mem_of_getElem? (i := 1008) (by decide +kernel), List.mem_of_getElem? (i := 1295) (by decide +kernel), List.mem_of_getElem? (i := 1296) (by decide +kernel)⟩
theorem lw_p52 : lw_okq (⟨"GateWatchModel", "looking", "()I"⟩, 34) := ⟨⟨by decide +kernel, by decide +kernel⟩, List.mem_of_getElem? (i := 1008) (by decide +kernel), List.mem_of_getElem? (i := 1299) (by decide +kernel), List.mem_of_getElem? (i := 1300) (by decide +kernel)⟩
theorem lw_p53 : lw_okq (⟨"GateWatchModel", "turned", "(I)I"⟩, 34) := ⟨⟨by decide +kernel, by decide +kernel⟩, List.mem_of_getElem? (i := 1008) (by decide +kernel), List.mem_of_getElem? (i := 1303) (by decide +kernel), List.mem_of_getElem? (i := 1304) (by decide +kernel)⟩
theorem lw_p54 : lw_okq (⟨"GateWatchModel", "toldOn", "(II)I"⟩, 34) := ⟨⟨by decide +kernel, by decide +kernel⟩, List.mem_of_getElem? (i := 1008) (by decide +kernel), List.mem_of_getElem? (i := 1307) (by decide +kernel), List.mem_of_getElem? (i := 1308) (by decide +kernel)⟩
theorem lw_p55 : lw_okq (⟨"GateWatchModel", "greatest", "(I)I"⟩, 34) := ⟨⟨by decide +kernel, by decide +kernel⟩, List.mem_of_getElem? (i := 1008) (by decide +kernel), List.mem_of_getElem? (i := 1314) (by decide +kernel), List.mem_of_getElem? (i := 1315) (by decide +kernel)⟩
theorem lw_p56 : lw_okq (⟨"GateWatchModel", "worth", "(II)I"⟩, 34) := ⟨⟨by decide +kernel, by decide +kernel⟩, List.mem_of_getElem? (i := 1008) (by decide +kernel), List.mem_of_getElem? (i := 1318) (by decide +kernel), List.mem_of_getElem? (i := 1319) (by decide +kernel)⟩
theorem lw_p57 : lw_okq (⟨"GateWatchModel", "meanFrom", "(III)J"⟩, 34) := ⟨⟨by decide +kernel, by decide +kernel⟩, List.mem_of_getElem? (i := 1008) (by decide +kernel), List.mem_of_getElem? (i := 1326) (by decide +kernel), List.mem_of_getElem? (i := 1327) (by decide +kernel)⟩
theorem lw_p58 : lw_okq (⟨"GateWatchModel", "bringsAll", "()J"⟩, 34) := ⟨⟨by decide +kernel, by decide +kernel⟩, List.mem_of_getElem? (i := 1008) (by decide +kernel), List.mem_of_getElem? (i := 1330) (by decide +kernel), List.mem_of_getElem? (i := 1331) (by decide +kernel)⟩
theorem lw_p59 : lw_okq (⟨"GateWatchModel", "lookedAt", "(II)I"⟩, 34) := ⟨⟨by decide +kernel, by decide +kernel⟩, List.mem_of_getElem? (i := 1008) (by decide +kernel), List.mem_of_getElem? (i := 1334) (by decide +kernel), List.mem_of_getElem? (i := 1335) (by decide +kernel)⟩
theorem lw_p60 : lw_okq (⟨"GateWatchModel", "looksFrom", "(IIIII)J"⟩, 34) := ⟨⟨by decide +kernel, by decide +kernel⟩, List.mem_of_getElem? (i := 1008) (by decide +kernel), List.mem_of_getElem? (i := 1338) (by decide +kernel), List.mem_of_getElem? (i := 1339) (by decide +kernel)⟩
theorem lw_p61 : lw_okq (⟨"GateWatchModel", "allOf", "(I)J"⟩, 34) := ⟨⟨by decide +kernel, by decide +kernel⟩, List.mem_of_getElem? (i := 1008) (by decide +kernel), List.mem_of_getElem? (i := 1346) (by decide +kernel), List.mem_of_getElem? (i := 1347) (by decide +kernel)⟩
theorem lw_p62 : lw_okq (⟨"GateWatchModel", "doubt", "(I)J"⟩, 34) := ⟨⟨by decide +kernel, by decide +kernel⟩, List.mem_of_getElem? (i := 1008) (by decide +kernel), List.mem_of_getElem? (i := 1364) (by decide +kernel), List.mem_of_getElem? (i := 1365) (by decide +kernel)⟩
theorem lw_p63 : lw_okq (⟨"GateWatchModel", "shows", "(IZ)V"⟩, 34) := ⟨⟨by decide +kernel, by decide +kernel⟩, List.mem_of_getElem? (i := 1008) (by decide +kernel), List.mem_of_getElem? (i := 1369) (by decide +kernel), List.mem_of_getElem? (i := 1370) (by decide +kernel)⟩
def lw_privs_4 : List (MethodName × Nat) := [(⟨"GateWatchModel", "numberOf", "(II)I"⟩, 34), (⟨"GateWatchModel", "isNoWorse", "(II)Z"⟩, 34), (⟨"GateWatchModel", "isPlan", "(I)Z"⟩, 34), (⟨"GateWatchModel", "whomOn", "(II)I"⟩, 34), (⟨"GateWatchModel", "looking", "()I"⟩, 34), (⟨"GateWatchModel", "turned", "(I)I"⟩, 34), (⟨"GateWatchModel", "toldOn", "(II)I"⟩, 34), (⟨"GateWatchModel", "greatest", "(I)I"⟩, 34), (⟨"GateWatchModel", "worth", "(II)I"⟩, 34), (⟨"GateWatchModel", "meanFrom", "(III)J"⟩, 34), (⟨"GateWatchModel", "bringsAll", "()J"⟩, 34), (⟨"GateWatchModel", "lookedAt", "(II)I"⟩, 34), (⟨"GateWatchModel", "looksFrom", "(IIIII)J"⟩, 34), (⟨"GateWatchModel", "allOf", "(I)J"⟩, 34), (⟨"GateWatchModel", "doubt", "(I)J"⟩, 34), (⟨"GateWatchModel", "shows", "(IZ)V"⟩, 34)]
theorem lw_r4 : ∀ q ∈ lw_privs_4, lw_okq q := List.forall_mem_cons.mpr ⟨lw_p48, List.forall_mem_cons.mpr ⟨lw_p49, List.forall_mem_cons.mpr ⟨lw_p50, List.forall_mem_cons.mpr ⟨lw_p51, List.forall_mem_cons.mpr ⟨lw_p52, List.forall_mem_cons.mpr ⟨lw_p53, List.forall_mem_cons.mpr ⟨lw_p54, List.forall_mem_cons.mpr ⟨lw_p55, List.forall_mem_cons.mpr ⟨lw_p56, List.forall_mem_cons.mpr ⟨lw_p57, List.forall_mem_cons.mpr ⟨lw_p58, List.forall_mem_cons.mpr ⟨lw_p59, List.forall_mem_cons.mpr ⟨lw_p60, List.forall_mem_cons.mpr ⟨lw_p61, List.forall_mem_cons.mpr ⟨lw_p62, List.forall_mem_cons.mpr ⟨lw_p63, fun _ h => absurd h List.not_mem_nil⟩⟩⟩⟩⟩⟩⟩⟩⟩⟩⟩⟩⟩⟩⟩⟩
theorem lw_p64 : lw_okq (⟨"GateWatchModel", "lookNow", "(I)J"⟩, 34) := ⟨⟨by decide +kernel, by decide +kernel⟩, List.mem_of_getElem? (i := 1008) (by decide +kernel), List.mem_of_getElem? (i := 1377) (by decide +kernel), List.mem_of_getElem? (i := 1378) (by decide +kernel)⟩
theorem lw_p65 : lw_okq (⟨"GateWatchModel", "turns", "(II)V"⟩, 34) := ⟨⟨by decide +kernel, by decide +kernel⟩, List.mem_of_getElem? (i := 1008) (by decide +kernel), List.mem_of_getElem? (i := 1381) (by decide +kernel), List.mem_of_getElem? (i := 1382) (by decide +kernel)⟩
theorem lw_p66 : lw_okq (⟨"GateWatchModel", "weight", "(II)I"⟩, 34) := ⟨⟨by decide +kernel, by decide +kernel⟩, List.mem_of_getElem? (i := 1008) (by decide +kernel), List.mem_of_getElem? (i := 1393) (by decide +kernel), List.mem_of_getElem? (i := 1394) (by decide +kernel)⟩
theorem lw_p67 : lw_okq (⟨"GateWatchModel", "firstOf", "(II)I"⟩, 34) := ⟨⟨by decide +kernel, by decide +kernel⟩, List.mem_of_getElem? (i := 1008) (by decide +kernel), List.mem_of_getElem? (i := 1401) (by decide +kernel), List.mem_of_getElem? (i := 1402) (by decide +kernel)⟩
theorem lw_p68 : lw_okq (⟨"GateWatchModel", "meansActs", "(I)I"⟩, 34) := ⟨⟨by decide +kernel, by decide +kernel⟩, List.mem_of_getElem? (i := 1008) (by decide +kernel), List.mem_of_getElem? (i := 1409) (by decide +kernel), List.mem_of_getElem? (i := 1410) (by decide +kernel)⟩
theorem lw_p69 : lw_okq (⟨"GateWatchModel", "runs", "(I)V"⟩, 34) := ⟨⟨by decide +kernel, by decide +kernel⟩, List.mem_of_getElem? (i := 1008) (by decide +kernel), List.mem_of_getElem? (i := 1413) (by decide +kernel), List.mem_of_getElem? (i := 1414) (by decide +kernel)⟩
theorem lw_p70 : lw_okq (⟨"GateWatchModel", "plainMeans", "(I)I"⟩, 34) := ⟨⟨by decide +kernel, by decide +kernel⟩, List.mem_of_getElem? (i := 1008) (by decide +kernel), List.mem_of_getElem? (i := 1417) (by decide +kernel), List.mem_of_getElem? (i := 1418) (by decide +kernel)⟩
theorem lw_p71 : lw_okq (⟨"GateWatchModel", "rowsActs", "(I)I"⟩, 34) := ⟨⟨by decide +kernel, by decide +kernel⟩, List.mem_of_getElem? (i := 1008) (by decide +kernel), List.mem_of_getElem? (i := 1421) (by decide +kernel), List.mem_of_getElem? (i := 1422) (by decide +kernel)⟩
theorem lw_p72 : lw_okq (⟨"GateWatchModel", "plainRows", "(I)I"⟩, 34) := ⟨⟨by decide +kernel, by decide +kernel⟩, List.mem_of_getElem? (i := 1008) (by decide +kernel), List.mem_of_getElem? (i := 1425) (by decide +kernel), List.mem_of_getElem? (i := 1426) (by decide +kernel)⟩
theorem lw_p73 : lw_okq (⟨"GateWatchModel", "endsActs", "(I)I"⟩, 34) := ⟨⟨by decide +kernel, by decide +kernel⟩, List.mem_of_getElem? (i := 1008) (by decide +kernel), List.mem_of_getElem? (i := 1432) (by decide +kernel), List.mem_of_getElem? (i := 1433) (by decide +kernel)⟩
theorem lw_p74 : lw_okq (⟨"GateWatchModel", "plainEnds", "(I)I"⟩, 34) := ⟨⟨by decide +kernel, by decide +kernel⟩, List.mem_of_getElem? (i := 1008) (by decide +kernel), List.mem_of_getElem? (i := 1436) (by decide +kernel), List.mem_of_getElem? (i := 1437) (by decide +kernel)⟩
def lw_privs_5 : List (MethodName × Nat) := [(⟨"GateWatchModel", "lookNow", "(I)J"⟩, 34), (⟨"GateWatchModel", "turns", "(II)V"⟩, 34), (⟨"GateWatchModel", "weight", "(II)I"⟩, 34), (⟨"GateWatchModel", "firstOf", "(II)I"⟩, 34), (⟨"GateWatchModel", "meansActs", "(I)I"⟩, 34), (⟨"GateWatchModel", "runs", "(I)V"⟩, 34), (⟨"GateWatchModel", "plainMeans", "(I)I"⟩, 34), (⟨"GateWatchModel", "rowsActs", "(I)I"⟩, 34), (⟨"GateWatchModel", "plainRows", "(I)I"⟩, 34), (⟨"GateWatchModel", "endsActs", "(I)I"⟩, 34), (⟨"GateWatchModel", "plainEnds", "(I)I"⟩, 34)]
theorem lw_r5 : ∀ q ∈ lw_privs_5, lw_okq q := List.forall_mem_cons.mpr ⟨lw_p64, List.forall_mem_cons.mpr ⟨lw_p65, List.forall_mem_cons.mpr ⟨lw_p66, List.forall_mem_cons.mpr ⟨lw_p67, List.forall_mem_cons.mpr ⟨lw_p68, List.forall_mem_cons.mpr ⟨lw_p69, List.forall_mem_cons.mpr ⟨lw_p70, List.forall_mem_cons.mpr ⟨lw_p71, List.forall_mem_cons.mpr ⟨lw_p72, List.forall_mem_cons.mpr ⟨lw_p73, List.forall_mem_cons.mpr ⟨lw_p74, fun _ h => absurd h List.not_mem_nil⟩⟩⟩⟩⟩⟩⟩⟩⟩⟩⟩
def lw_privs : List (MethodName × Nat) := lw_privs_1 ++ (lw_privs_2 ++ (lw_privs_3 ++ (lw_privs_4 ++ (lw_privs_5))))
def lw_tbl : List Cond := k2_sels lw_privs ++ tables_1
theorem lw_privs_ok : ∀ q ∈ lw_privs, lw_okq q := by
  show ∀ q ∈ lw_privs_1 ++ (lw_privs_2 ++ (lw_privs_3 ++ (lw_privs_4 ++ (lw_privs_5)))), lw_okq q
  exact List.forall_mem_append.mpr ⟨lw_r1, List.forall_mem_append.mpr ⟨lw_r2, List.forall_mem_append.mpr ⟨lw_r3, List.forall_mem_append.mpr ⟨lw_r4, lw_r5⟩⟩⟩⟩
/-! ===== BEGIN words of one list among another's, by their places ===== -/
theorem goodIn_r {big : List Cond} (ws : List Cond) (ps : List Nat) (hp : ws = ps.filterMap (fun i => big[i]?)) (h : ws.all goodWord = true) : GoodIn big ws := by
  intro w hw
  have h1 := List.all_eq_true.mp h w hw
  rw [hp] at hw
  obtain ⟨i, -, hi⟩ := List.mem_filterMap.mp hw
  have hm : w ∈ big := by first | exact List.mem_of_getElem? hi | exact List.getElem?_mem hi
  exact ⟨hm, good_of_word h1⟩
theorem goodIn_app {big a b : List Cond} (ha : GoodIn big a) (hb : GoodIn big b) : GoodIn big (a ++ b) := fun w h => (List.mem_append.mp h).elim (ha w) (hb w)
theorem goodIn_ca {big a b : List Cond} {c : Cond} (ha : GoodIn big (c :: a)) (hb : GoodIn big b) : GoodIn big (c :: (a ++ b)) := fun w h => (List.mem_cons.mp h).elim (fun e => ha w (List.mem_cons.mpr (Or.inl e))) (fun h => (List.mem_append.mp h).elim (fun h => ha w (List.mem_cons.mpr (Or.inr h))) (hb w))
theorem goodIn_sub {big ws : List Cond} (hm : ∀ w ∈ ws, w ∈ big) (h : ws.all goodWord = true) : GoodIn big ws := fun w hw => ⟨hm w hw, good_of_word (List.all_eq_true.mp h w hw)⟩
/-! ===== END ===== -/

def RX0 : String := "GateWatch$Book"
def TX0 : u_T := fun k => match k with
  | 0 => ("GateWatch$Book", "tape", "[B", true)
  | 1 => ("GateWatch$Book", "tapeSize", "I", false)
  | 2 => ("GateWatch$Book", "sorts", "[LGateWatch$Sort;", true)
  | 3 => ("GateWatch$Book", "sortCount", "I", false)
  | 4 => ("GateWatch$Book", "sortOf", "[I", true)
  | 5 => ("GateWatch$Book", "place", "[I", true)
  | 6 => ("GateWatch$Book", "known", "[I", true)
  | 7 => ("GateWatch$Book", "since", "[I", true)
  | 8 => ("GateWatch$Book", "shownWell", "[I", true)
  | 9 => ("GateWatch$Book", "shownIll", "[I", true)
  | 10 => ("GateWatch$Book", "well", "[Z", true)
  | 11 => ("GateWatch$Book", "thingCount", "I", false)
  | 12 => ("GateWatch$Book", "plans", "[LGateWatch$Plan;", true)
  | 13 => ("GateWatch$Book", "rowSize", "[I", true)
  | 14 => ("GateWatch$Book", "rows", "[[I", true)
  | 15 => ("GateWatch$Book", "planCount", "I", false)
  | 16 => ("GateWatch$Book", "now", "I", false)
  | _ => ("GateWatch$Book", "looks", "I", false)
def tyX0 : Nat → FieldType := fun k => match k with
  | 0 => .array .byte
  | 1 => .int
  | 2 => .array (.object "GateWatch$Sort")
  | 3 => .int
  | 4 => .array .int
  | 5 => .array .int
  | 6 => .array .int
  | 7 => .array .int
  | 8 => .array .int
  | 9 => .array .int
  | 10 => .array .boolean
  | 11 => .int
  | 12 => .array (.object "GateWatch$Plan")
  | 13 => .array .int
  | 14 => .array (.array .int)
  | 15 => .int
  | 16 => .int
  | _ => .int
abbrev wsX00 : List Cond := u_ws RX0 TX0 18
theorem nmX0 : ∀ a, a < 18 → ∀ b, b < 18 → a ≠ b → (TX0 a).2.1 ≠ (TX0 b).2.1 := by decide +kernel
theorem tyX0_ok : ∀ k, k < 18 → parseFieldDescriptor (TX0 k).2.2.1 = some (tyX0 k) := by decide +kernel
abbrev cX0_init : ByteArray := prog_2_method_1_code
def yX0_init : MethodName := ⟨RX0, "<init>", "()V"⟩
abbrev cX0_copyFrom : ByteArray := prog_2_method_2_code
def yX0_copyFrom : MethodName := ⟨RX0, "copyFrom", "(LGateWatch$Book;)V"⟩
abbrev cX0_copyThing : ByteArray := prog_2_method_3_code
def yX0_copyThing : MethodName := ⟨RX0, "copyThing", "(LGateWatch$Book;I)V"⟩
abbrev cX0_hasThing : ByteArray := prog_2_method_4_code
def yX0_hasThing : MethodName := ⟨RX0, "hasThing", "(I)Z"⟩
abbrev cX0_planAt : ByteArray := prog_2_method_5_code
def yX0_planAt : MethodName := ⟨RX0, "planAt", "(I)LGateWatch$Plan;"⟩
abbrev cX0_sortAt : ByteArray := prog_2_method_6_code
def yX0_sortAt : MethodName := ⟨RX0, "sortAt", "(I)LGateWatch$Sort;"⟩
abbrev cX0_looksOrAll : ByteArray := prog_2_method_7_code
def yX0_looksOrAll : MethodName := ⟨RX0, "looksOrAll", "()I"⟩
abbrev cX0_addThing : ByteArray := prog_2_method_8_code
def yX0_addThing : MethodName := ⟨RX0, "addThing", "(II)I"⟩
abbrev cX0_addPlan : ByteArray := prog_2_method_9_code
def yX0_addPlan : MethodName := ⟨RX0, "addPlan", "(LGateWatch$Plan;)I"⟩
abbrev cX0_goOver : ByteArray := prog_2_method_10_code
def yX0_goOver : MethodName := ⟨RX0, "goOver", "()V"⟩
abbrev cX0_lookAndPay : ByteArray := prog_2_method_11_code
def yX0_lookAndPay : MethodName := ⟨RX0, "lookAndPay", "(I)J"⟩
abbrev cX0_lookAt : ByteArray := prog_2_method_12_code
def yX0_lookAt : MethodName := ⟨RX0, "lookAt", "(ILGateWatch$Sort;)J"⟩
abbrev cX0_turnAll : ByteArray := prog_2_method_13_code
def yX0_turnAll : MethodName := ⟨RX0, "turnAll", "(I)V"⟩
abbrev cX0_wayOf : ByteArray := prog_2_method_14_code
def yX0_wayOf : MethodName := ⟨RX0, "wayOf", "(I)I"⟩
def RX1 : String := "GateWatch$Drawn"
def TX1 : u_T := fun k => match k with
  | 0 => ("GateWatch$Plan", "i", "I", true)
  | _ => ("GateWatch$Plan", "v", "I", true)
def tyX1 : Nat → FieldType := fun k => match k with
  | 0 => .int
  | _ => .int
abbrev wsX10 : List Cond := u_ws RX1 TX1 2
theorem nmX1 : ∀ a, a < 2 → ∀ b, b < 2 → a ≠ b → (TX1 a).2.1 ≠ (TX1 b).2.1 := by decide +kernel
theorem tyX1_ok : ∀ k, k < 2 → parseFieldDescriptor (TX1 k).2.2.1 = some (tyX1 k) := by decide +kernel
abbrev cX1_init : ByteArray := prog_3_method_1_code
def yX1_init : MethodName := ⟨RX1, "<init>", "(II)V"⟩
abbrev cX1_beginning : ByteArray := prog_3_method_2_code
def yX1_beginning : MethodName := ⟨RX1, "beginning", "(II)I"⟩
abbrev cX1_ends : ByteArray := prog_3_method_3_code
def yX1_ends : MethodName := ⟨RX1, "ends", "(I[I)I"⟩
def RX2 : String := "GateWatch$Far"
def TX2 : u_T := fun k => match k with
  | 0 => ("GateWatch$Plan", "i", "I", true)
  | _ => ("GateWatch$Plan", "v", "I", true)
def tyX2 : Nat → FieldType := fun k => match k with
  | 0 => .int
  | _ => .int
abbrev wsX20 : List Cond := u_ws RX2 TX2 2
theorem nmX2 : ∀ a, a < 2 → ∀ b, b < 2 → a ≠ b → (TX2 a).2.1 ≠ (TX2 b).2.1 := by decide +kernel
theorem tyX2_ok : ∀ k, k < 2 → parseFieldDescriptor (TX2 k).2.2.1 = some (tyX2 k) := by decide +kernel
abbrev cX2_init : ByteArray := prog_4_method_1_code
def yX2_init : MethodName := ⟨RX2, "<init>", "(II)V"⟩
abbrev cX2_worthOf : ByteArray := prog_4_method_2_code
def yX2_worthOf : MethodName := ⟨RX2, "worthOf", "(LGateWatch$Outlook;II)I"⟩
abbrev cX2_rows : ByteArray := prog_4_method_3_code
def yX2_rows : MethodName := ⟨RX2, "rows", "(I[I)I"⟩
def RX3 : String := "GateWatch$Near"
def TX3 : u_T := fun k => match k with
  | 0 => ("GateWatch$Plan", "i", "I", true)
  | _ => ("GateWatch$Plan", "v", "I", true)
def tyX3 : Nat → FieldType := fun k => match k with
  | 0 => .int
  | _ => .int
abbrev wsX30 : List Cond := u_ws RX3 TX3 2
theorem nmX3 : ∀ a, a < 2 → ∀ b, b < 2 → a ≠ b → (TX3 a).2.1 ≠ (TX3 b).2.1 := by decide +kernel
theorem tyX3_ok : ∀ k, k < 2 → parseFieldDescriptor (TX3 k).2.2.1 = some (tyX3 k) := by decide +kernel
abbrev cX3_init : ByteArray := prog_5_method_1_code
def yX3_init : MethodName := ⟨RX3, "<init>", "(II)V"⟩
abbrev cX3_worthOf : ByteArray := prog_5_method_2_code
def yX3_worthOf : MethodName := ⟨RX3, "worthOf", "(LGateWatch$Outlook;II)I"⟩
abbrev cX3_ends : ByteArray := prog_5_method_3_code
def yX3_ends : MethodName := ⟨RX3, "ends", "(I[I)I"⟩
def RX4 : String := "GateWatch$Numbered"
def TX4 : u_T := fun k => match k with
  | 0 => ("GateWatch$Plan", "i", "I", true)
  | _ => ("GateWatch$Plan", "v", "I", true)
def tyX4 : Nat → FieldType := fun k => match k with
  | 0 => .int
  | _ => .int
abbrev wsX40 : List Cond := u_ws RX4 TX4 2
theorem nmX4 : ∀ a, a < 2 → ∀ b, b < 2 → a ≠ b → (TX4 a).2.1 ≠ (TX4 b).2.1 := by decide +kernel
theorem tyX4_ok : ∀ k, k < 2 → parseFieldDescriptor (TX4 k).2.2.1 = some (tyX4 k) := by decide +kernel
abbrev cX4_init : ByteArray := prog_6_method_1_code
def yX4_init : MethodName := ⟨RX4, "<init>", "(II)V"⟩
abbrev cX4_daysAhead : ByteArray := prog_6_method_2_code
def yX4_daysAhead : MethodName := ⟨RX4, "daysAhead", "()I"⟩
abbrev cX4_worthOf : ByteArray := prog_6_method_3_code
def yX4_worthOf : MethodName := ⟨RX4, "worthOf", "(LGateWatch$Outlook;II)I"⟩
abbrev cX4_means : ByteArray := prog_6_method_4_code
def yX4_means : MethodName := ⟨RX4, "means", "(I[I)I"⟩
def RX5 : String := "GateWatch$Outlook"
def TX5 : u_T := fun k => match k with
  | 0 => ("GateWatch$Outlook", "book", "LGateWatch$Book;", true)
  | 1 => ("GateWatch$Outlook", "known", "[[I", true)
  | 2 => ("GateWatch$Outlook", "since", "[[I", true)
  | 3 => ("GateWatch$Outlook", "brings", "[[I", true)
  | 4 => ("GateWatch$Outlook", "wages", "[[I", true)
  | 5 => ("GateWatch$Outlook", "worth", "[I", true)
  | 6 => ("GateWatch$Outlook", "rest", "[J", true)
  | 7 => ("GateWatch$Outlook", "notLooked", "J", false)
  | _ => ("GateWatch$Outlook", "looked", "J", false)
def tyX5 : Nat → FieldType := fun k => match k with
  | 0 => .object "GateWatch$Book"
  | 1 => .array (.array .int)
  | 2 => .array (.array .int)
  | 3 => .array (.array .int)
  | 4 => .array (.array .int)
  | 5 => .array .int
  | 6 => .array .long
  | 7 => .long
  | _ => .long
abbrev wsX50 : List Cond := u_ws RX5 TX5 9
theorem nmX5 : ∀ a, a < 9 → ∀ b, b < 9 → a ≠ b → (TX5 a).2.1 ≠ (TX5 b).2.1 := by decide +kernel
theorem tyX5_ok : ∀ k, k < 9 → parseFieldDescriptor (TX5 k).2.2.1 = some (tyX5 k) := by decide +kernel
abbrev cX5_init : ByteArray := prog_7_method_1_code
def yX5_init : MethodName := ⟨RX5, "<init>", "(LGateWatch$Book;)V"⟩
abbrev cX5_layAll : ByteArray := prog_7_method_2_code
def yX5_layAll : MethodName := ⟨RX5, "layAll", "(I)V"⟩
abbrev cX5_lay : ByteArray := prog_7_method_3_code
def yX5_lay : MethodName := ⟨RX5, "lay", "(III)V"⟩
abbrev cX5_layPath : ByteArray := prog_7_method_4_code
def yX5_layPath : MethodName := ⟨RX5, "layPath", "(IIII)V"⟩
abbrev cX5_spotSeenIll : ByteArray := prog_7_method_5_code
def yX5_spotSeenIll : MethodName := ⟨RX5, "spotSeenIll", "(I)I"⟩
abbrev cX5_weigh : ByteArray := prog_7_method_6_code
def yX5_weigh : MethodName := ⟨RX5, "weigh", "(IIII)V"⟩
abbrev cX5_sumAlone : ByteArray := prog_7_method_7_code
def yX5_sumAlone : MethodName := ⟨RX5, "sumAlone", "(II)J"⟩
abbrev cX5_leastWage : ByteArray := prog_7_method_8_code
def yX5_leastWage : MethodName := ⟨RX5, "leastWage", "(III)I"⟩
abbrev cX5_weighAll : ByteArray := prog_7_method_9_code
def yX5_weighAll : MethodName := ⟨RX5, "weighAll", "(I)V"⟩
abbrev cX5_worthOf : ByteArray := prog_7_method_10_code
def yX5_worthOf : MethodName := ⟨RX5, "worthOf", "(I)I"⟩
abbrev cX5_worthiest : ByteArray := prog_7_method_11_code
def yX5_worthiest : MethodName := ⟨RX5, "worthiest", "()I"⟩
abbrev cX5_worthiestWith : ByteArray := prog_7_method_12_code
def yX5_worthiestWith : MethodName := ⟨RX5, "worthiestWith", "(III)I"⟩
abbrev cX5_worthiestSet : ByteArray := prog_7_method_13_code
def yX5_worthiestSet : MethodName := ⟨RX5, "worthiestSet", "()I"⟩
def RX6 : String := "GateWatch$Plan"
def TX6 : u_T := fun k => match k with
  | 0 => ("GateWatch$Plan", "i", "I", true)
  | _ => ("GateWatch$Plan", "v", "I", true)
def tyX6 : Nat → FieldType := fun k => match k with
  | 0 => .int
  | _ => .int
abbrev wsX60 : List Cond := u_ws RX6 TX6 2
theorem nmX6 : ∀ a, a < 2 → ∀ b, b < 2 → a ≠ b → (TX6 a).2.1 ≠ (TX6 b).2.1 := by decide +kernel
theorem tyX6_ok : ∀ k, k < 2 → parseFieldDescriptor (TX6 k).2.2.1 = some (tyX6 k) := by decide +kernel
abbrev cX6_init : ByteArray := prog_8_method_1_code
def yX6_init : MethodName := ⟨RX6, "<init>", "(II)V"⟩
abbrev cX6_daysAhead : ByteArray := prog_8_method_2_code
def yX6_daysAhead : MethodName := ⟨RX6, "daysAhead", "()I"⟩
abbrev cX6_chosen : ByteArray := prog_8_method_3_code
def yX6_chosen : MethodName := ⟨RX6, "chosen", "(LGateWatch$Outlook;[II)I"⟩
abbrev cX6_worthOf : ByteArray := prog_8_method_4_code
def yX6_worthOf : MethodName := ⟨RX6, "worthOf", "(LGateWatch$Outlook;II)I"⟩
abbrev cX6_began : ByteArray := prog_8_method_5_code
def yX6_began : MethodName := ⟨RX6, "began", "([II)V"⟩
abbrev cX6_means : ByteArray := prog_8_method_6_code
def yX6_means : MethodName := ⟨RX6, "means", "(I[I)I"⟩
abbrev cX6_rows : ByteArray := prog_8_method_7_code
def yX6_rows : MethodName := ⟨RX6, "rows", "(I[I)I"⟩
abbrev cX6_ends : ByteArray := prog_8_method_8_code
def yX6_ends : MethodName := ⟨RX6, "ends", "(I[I)I"⟩
def RX7 : String := "GateWatch$Sort"
def TX7 : u_T := fun k => match k with
  | 0 => ("GateWatch$Sort", "last", "[I", true)
  | 1 => ("GateWatch$Sort", "text", "[B", true)
  | 2 => ("GateWatch$Sort", "at", "I", false)
  | 3 => ("GateWatch$Sort", "number", "I", false)
  | 4 => ("GateWatch$Sort", "code", "[I", true)
  | 5 => ("GateWatch$Sort", "codeSize", "I", false)
  | 6 => ("GateWatch$Sort", "clauseWord", "[I", true)
  | 7 => ("GateWatch$Sort", "clauseNumber", "[I", true)
  | 8 => ("GateWatch$Sort", "clauseEnd", "[I", true)
  | _ => ("GateWatch$Sort", "clauses", "I", false)
def tyX7 : Nat → FieldType := fun k => match k with
  | 0 => .array .int
  | 1 => .array .byte
  | 2 => .int
  | 3 => .int
  | 4 => .array .int
  | 5 => .int
  | 6 => .array .int
  | 7 => .array .int
  | 8 => .array .int
  | _ => .int
abbrev wsX70 : List Cond := u_ws RX7 TX7 10
theorem nmX7 : ∀ a, a < 10 → ∀ b, b < 10 → a ≠ b → (TX7 a).2.1 ≠ (TX7 b).2.1 := by decide +kernel
theorem tyX7_ok : ∀ k, k < 10 → parseFieldDescriptor (TX7 k).2.2.1 = some (tyX7 k) := by decide +kernel
abbrev cX7_init : ByteArray := prog_9_method_1_code
def yX7_init : MethodName := ⟨RX7, "<init>", "([BI)V"⟩
abbrev cX7_readText : ByteArray := prog_9_method_2_code
def yX7_readText : MethodName := ⟨RX7, "readText", "()I"⟩
abbrev cX7_readClause : ByteArray := prog_9_method_3_code
def yX7_readClause : MethodName := ⟨RX7, "readClause", "()Z"⟩
abbrev cX7_addClause : ByteArray := prog_9_method_4_code
def yX7_addClause : MethodName := ⟨RX7, "addClause", "(II)Z"⟩
abbrev cX7_wordFor : ByteArray := prog_9_method_5_code
def yX7_wordFor : MethodName := ⟨RX7, "wordFor", "(I)Ljava/lang/String;"⟩
abbrev cX7_readWord : ByteArray := prog_9_method_6_code
def yX7_readWord : MethodName := ⟨RX7, "readWord", "()I"⟩
abbrev cX7_alikeWith : ByteArray := prog_9_method_7_code
def yX7_alikeWith : MethodName := ⟨RX7, "alikeWith", "(Ljava/lang/String;)I"⟩
abbrev cX7_take : ByteArray := prog_9_method_8_code
def yX7_take : MethodName := ⟨RX7, "take", "(C)Z"⟩
abbrev cX7_readNumber : ByteArray := prog_9_method_9_code
def yX7_readNumber : MethodName := ⟨RX7, "readNumber", "()Z"⟩
abbrev cX7_readEither : ByteArray := prog_9_method_10_code
def yX7_readEither : MethodName := ⟨RX7, "readEither", "(I)Z"⟩
abbrev cX7_readBoth : ByteArray := prog_9_method_11_code
def yX7_readBoth : MethodName := ⟨RX7, "readBoth", "(I)Z"⟩
abbrev cX7_readPart : ByteArray := prog_9_method_12_code
def yX7_readPart : MethodName := ⟨RX7, "readPart", "(I)Z"⟩
abbrev cX7_readTest : ByteArray := prog_9_method_13_code
def yX7_readTest : MethodName := ⟨RX7, "readTest", "()Z"⟩
abbrev cX7_put : ByteArray := prog_9_method_14_code
def yX7_put : MethodName := ⟨RX7, "put", "(I)Z"⟩
abbrev cX7_chance : ByteArray := prog_9_method_15_code
def yX7_chance : MethodName := ⟨RX7, "chance", "(III)I"⟩
abbrev cX7_holds : ByteArray := prog_9_method_16_code
def yX7_holds : MethodName := ⟨RX7, "holds", "(IIII)Z"⟩
abbrev cX7_knownOver : ByteArray := prog_9_method_17_code
def yX7_knownOver : MethodName := ⟨RX7, "knownOver", "(IIII)I"⟩
abbrev cX7_bringsBy : ByteArray := prog_9_method_18_code
def yX7_bringsBy : MethodName := ⟨RX7, "bringsBy", "(I)I"⟩
abbrev cX7_lookCost : ByteArray := prog_9_method_19_code
def yX7_lookCost : MethodName := ⟨RX7, "lookCost", "()J"⟩
abbrev cX7_mendCost : ByteArray := prog_9_method_20_code
def yX7_mendCost : MethodName := ⟨RX7, "mendCost", "()J"⟩
abbrev cX7_mends : ByteArray := prog_9_method_21_code
def yX7_mends : MethodName := ⟨RX7, "mends", "()Z"⟩
def RX8 : String := "GateWatch$Told"
def TX8 : u_T := fun k => match k with
  | 0 => ("GateWatch$Plan", "i", "I", true)
  | _ => ("GateWatch$Plan", "v", "I", true)
def tyX8 : Nat → FieldType := fun k => match k with
  | 0 => .int
  | _ => .int
abbrev wsX80 : List Cond := u_ws RX8 TX8 2
theorem nmX8 : ∀ a, a < 2 → ∀ b, b < 2 → a ≠ b → (TX8 a).2.1 ≠ (TX8 b).2.1 := by decide +kernel
theorem tyX8_ok : ∀ k, k < 2 → parseFieldDescriptor (TX8 k).2.2.1 = some (tyX8 k) := by decide +kernel
abbrev cX8_init : ByteArray := prog_10_method_1_code
def yX8_init : MethodName := ⟨RX8, "<init>", "(II)V"⟩
abbrev cX8_chosen : ByteArray := prog_10_method_2_code
def yX8_chosen : MethodName := ⟨RX8, "chosen", "(LGateWatch$Outlook;[II)I"⟩
abbrev cX8_means : ByteArray := prog_10_method_3_code
def yX8_means : MethodName := ⟨RX8, "means", "(I[I)I"⟩
def RX9 : String := "GateWatch$Tree"
def TX9 : u_T := fun k => match k with
  | 0 => ("GateWatch$Tree", "outlook", "LGateWatch$Outlook;", true)
  | 1 => ("GateWatch$Tree", "book", "LGateWatch$Book;", true)
  | 2 => ("GateWatch$Tree", "spots", "[[I", true)
  | 3 => ("GateWatch$Tree", "plan", "LGateWatch$Plan;", false)
  | 4 => ("GateWatch$Tree", "row", "[I", true)
  | 5 => ("GateWatch$Tree", "rowSize", "I", false)
  | 6 => ("GateWatch$Tree", "sets", "[I", true)
  | 7 => ("GateWatch$Tree", "setCount", "I", false)
  | 8 => ("GateWatch$Tree", "days", "I", false)
  | 9 => ("GateWatch$Tree", "firstSet", "I", false)
  | _ => ("GateWatch$Tree", "bestRow", "[I", true)
def tyX9 : Nat → FieldType := fun k => match k with
  | 0 => .object "GateWatch$Outlook"
  | 1 => .object "GateWatch$Book"
  | 2 => .array (.array .int)
  | 3 => .object "GateWatch$Plan"
  | 4 => .array .int
  | 5 => .int
  | 6 => .array .int
  | 7 => .int
  | 8 => .int
  | 9 => .int
  | _ => .array .int
abbrev wsX90 : List Cond := u_ws RX9 TX9 11
theorem nmX9 : ∀ a, a < 11 → ∀ b, b < 11 → a ≠ b → (TX9 a).2.1 ≠ (TX9 b).2.1 := by decide +kernel
theorem tyX9_ok : ∀ k, k < 11 → parseFieldDescriptor (TX9 k).2.2.1 = some (tyX9 k) := by decide +kernel
abbrev cX9_init : ByteArray := prog_11_method_1_code
def yX9_init : MethodName := ⟨RX9, "<init>", "(LGateWatch$Outlook;)V"⟩
abbrev cX9_begin : ByteArray := prog_11_method_2_code
def yX9_begin : MethodName := ⟨RX9, "begin", "(I)V"⟩
abbrev cX9_meanOf : ByteArray := prog_11_method_3_code
def yX9_meanOf : MethodName := ⟨RX9, "meanOf", "(LGateWatch$Plan;I)J"⟩
abbrev cX9_greatestMean : ByteArray := prog_11_method_4_code
def yX9_greatestMean : MethodName := ⟨RX9, "greatestMean", "(I)J"⟩
abbrev cX9_gatherSets : ByteArray := prog_11_method_5_code
def yX9_gatherSets : MethodName := ⟨RX9, "gatherSets", "()V"⟩
abbrev cX9_greatestRound : ByteArray := prog_11_method_6_code
def yX9_greatestRound : MethodName := ⟨RX9, "greatestRound", "(I)J"⟩
abbrev cX9_spellRow : ByteArray := prog_11_method_7_code
def yX9_spellRow : MethodName := ⟨RX9, "spellRow", "(I)V"⟩
abbrev cX9_fromDay : ByteArray := prog_11_method_8_code
def yX9_fromDay : MethodName := ⟨RX9, "fromDay", "(I)J"⟩
abbrev cX9_behindBestLooks : ByteArray := prog_11_method_9_code
def yX9_behindBestLooks : MethodName := ⟨RX9, "behindBestLooks", "(I)J"⟩
abbrev cX9_behindLooks : ByteArray := prog_11_method_10_code
def yX9_behindLooks : MethodName := ⟨RX9, "behindLooks", "(II)J"⟩
abbrev cX9_behindDay : ByteArray := prog_11_method_11_code
def yX9_behindDay : MethodName := ⟨RX9, "behindDay", "(I)J"⟩
abbrev cX9_goOver : ByteArray := prog_11_method_12_code
def yX9_goOver : MethodName := ⟨RX9, "goOver", "(I)V"⟩
abbrev cX9_firstOutdone : ByteArray := prog_11_method_13_code
def yX9_firstOutdone : MethodName := ⟨RX9, "firstOutdone", "(LGateWatch$Plan;I)I"⟩
abbrev cX9_showLikely : ByteArray := prog_11_method_14_code
def yX9_showLikely : MethodName := ⟨RX9, "showLikely", "(II)V"⟩
def RX10 : String := "GateWatch$Turn"
def TX10 : u_T := fun k => match k with
  | 0 => ("GateWatch$Plan", "i", "I", true)
  | _ => ("GateWatch$Plan", "v", "I", true)
def tyX10 : Nat → FieldType := fun k => match k with
  | 0 => .int
  | _ => .int
abbrev wsX100 : List Cond := u_ws RX10 TX10 2
theorem nmX10 : ∀ a, a < 2 → ∀ b, b < 2 → a ≠ b → (TX10 a).2.1 ≠ (TX10 b).2.1 := by decide +kernel
theorem tyX10_ok : ∀ k, k < 2 → parseFieldDescriptor (TX10 k).2.2.1 = some (tyX10 k) := by decide +kernel
abbrev cX10_init : ByteArray := prog_12_method_1_code
def yX10_init : MethodName := ⟨RX10, "<init>", "(II)V"⟩
abbrev cX10_chosen : ByteArray := prog_12_method_2_code
def yX10_chosen : MethodName := ⟨RX10, "chosen", "(LGateWatch$Outlook;[II)I"⟩
abbrev cX10_beginning : ByteArray := prog_12_method_3_code
def yX10_beginning : MethodName := ⟨RX10, "beginning", "(II)I"⟩
abbrev cX10_rows : ByteArray := prog_12_method_4_code
def yX10_rows : MethodName := ⟨RX10, "rows", "(I[I)I"⟩
def RX11 : String := "GateWatch"
def TX11 : u_T := fun k => match k with
  | 0 => ("GateWatch", "book", "LGateWatch$Book;", true)
  | 1 => ("GateWatch", "kept", "LGateWatch$Book;", true)
  | 2 => ("GateWatch", "hasImage", "Z", false)
  | 3 => ("GateWatch", "outlook", "LGateWatch$Outlook;", true)
  | 4 => ("GateWatch", "tree", "LGateWatch$Tree;", true)
  | 5 => ("GateWatch", "today", "[I", true)
  | _ => ("GateWatch", "bodies", "[I", true)
def tyX11 : Nat → FieldType := fun k => match k with
  | 0 => .object "GateWatch$Book"
  | 1 => .object "GateWatch$Book"
  | 2 => .boolean
  | 3 => .object "GateWatch$Outlook"
  | 4 => .object "GateWatch$Tree"
  | 5 => .array .int
  | _ => .array .int
abbrev wsX110 : List Cond := u_ws RX11 TX11 7
theorem nmX11 : ∀ a, a < 7 → ∀ b, b < 7 → a ≠ b → (TX11 a).2.1 ≠ (TX11 b).2.1 := by decide +kernel
theorem tyX11_ok : ∀ k, k < 7 → parseFieldDescriptor (TX11 k).2.2.1 = some (tyX11 k) := by decide +kernel
abbrev cX11_init : ByteArray := prog_1_method_1_code
def yX11_init : MethodName := ⟨RX11, "<init>", "()V"⟩
abbrev cX11_feed : ByteArray := prog_1_method_2_code
def yX11_feed : MethodName := ⟨RX11, "feed", "(JI)I"⟩
abbrev cX11_sort : ByteArray := prog_1_method_3_code
def yX11_sort : MethodName := ⟨RX11, "sort", "()I"⟩
abbrev cX11_told : ByteArray := prog_1_method_4_code
def yX11_told : MethodName := ⟨RX11, "told", "(IIII)I"⟩
abbrev cX11_thing : ByteArray := prog_1_method_5_code
def yX11_thing : MethodName := ⟨RX11, "thing", "(II)I"⟩
abbrev cX11_of : ByteArray := prog_1_method_6_code
def yX11_of : MethodName := ⟨RX11, "of", "(II)I"⟩
abbrev cX11_days : ByteArray := prog_1_method_7_code
def yX11_days : MethodName := ⟨RX11, "days", "(I)I"⟩
abbrev cX11_seen : ByteArray := prog_1_method_8_code
def yX11_seen : MethodName := ⟨RX11, "seen", "(IZ)I"⟩
abbrev cX11_best : ByteArray := prog_1_method_9_code
def yX11_best : MethodName := ⟨RX11, "best", "(IIII)J"⟩
abbrev cX11_number : ByteArray := prog_1_method_10_code
def yX11_number : MethodName := ⟨RX11, "number", "(II)I"⟩
abbrev cX11_such : ByteArray := prog_1_method_11_code
def yX11_such : MethodName := ⟨RX11, "such", "(II)I"⟩
abbrev cX11_looks : ByteArray := prog_1_method_12_code
def yX11_looks : MethodName := ⟨RX11, "looks", "(I)I"⟩
abbrev cX11_plan : ByteArray := prog_1_method_13_code
def yX11_plan : MethodName := ⟨RX11, "plan", "(II)I"⟩
abbrev cX11_row : ByteArray := prog_1_method_14_code
def yX11_row : MethodName := ⟨RX11, "row", "(II)I"⟩
abbrev cX11_whom : ByteArray := prog_1_method_15_code
def yX11_whom : MethodName := ⟨RX11, "whom", "(I)I"⟩
abbrev cX11_mean : ByteArray := prog_1_method_16_code
def yX11_mean : MethodName := ⟨RX11, "mean", "(II)J"⟩
abbrev cX11_all : ByteArray := prog_1_method_17_code
def yX11_all : MethodName := ⟨RX11, "all", "(II)J"⟩
abbrev cX11_loses : ByteArray := prog_1_method_18_code
def yX11_loses : MethodName := ⟨RX11, "loses", "(II)J"⟩
abbrev cX11_bound : ByteArray := prog_1_method_19_code
def yX11_bound : MethodName := ⟨RX11, "bound", "(I)J"⟩
abbrev cX11_judged : ByteArray := prog_1_method_20_code
def yX11_judged : MethodName := ⟨RX11, "judged", "(II)I"⟩
abbrev cX11_run : ByteArray := prog_1_method_21_code
def yX11_run : MethodName := ⟨RX11, "run", "(III)J"⟩
abbrev cX11_round : ByteArray := prog_1_method_22_code
def yX11_round : MethodName := ⟨RX11, "round", "(II)J"⟩
abbrev cX11_tour : ByteArray := prog_1_method_23_code
def yX11_tour : MethodName := ⟨RX11, "tour", "(II)I"⟩
abbrev cX11_edge : ByteArray := prog_1_method_24_code
def yX11_edge : MethodName := ⟨RX11, "edge", "(II)I"⟩
abbrev cX11_act : ByteArray := prog_1_method_25_code
def yX11_act : MethodName := ⟨RX11, "act", "(III)I"⟩
abbrev cX11_trace : ByteArray := prog_1_method_26_code
def yX11_trace : MethodName := ⟨RX11, "trace", "(I)I"⟩
abbrev cX11_as : ByteArray := prog_1_method_27_code
def yX11_as : MethodName := ⟨RX11, "as", "(II)I"⟩
abbrev cX11_image : ByteArray := prog_1_method_28_code
def yX11_image : MethodName := ⟨RX11, "image", "()I"⟩
abbrev cX11_undo : ByteArray := prog_1_method_29_code
def yX11_undo : MethodName := ⟨RX11, "undo", "()I"⟩
abbrev cX11_count : ByteArray := prog_1_method_30_code
def yX11_count : MethodName := ⟨RX11, "count", "(I)I"⟩
abbrev cX11_within : ByteArray := prog_1_method_31_code
def yX11_within : MethodName := ⟨RX11, "within", "(III)Z"⟩
abbrev cX11_bothWays : ByteArray := prog_1_method_32_code
def yX11_bothWays : MethodName := ⟨RX11, "bothWays", "(IJJ)J"⟩
abbrev cX11_planOf : ByteArray := prog_1_method_33_code
def yX11_planOf : MethodName := ⟨RX11, "planOf", "(III)LGateWatch$Plan;"⟩
abbrev cX11_isOfKind : ByteArray := prog_1_method_34_code
def yX11_isOfKind : MethodName := ⟨RX11, "isOfKind", "(LGateWatch$Plan;I)Z"⟩
abbrev cX11_whomNow : ByteArray := prog_1_method_35_code
def yX11_whomNow : MethodName := ⟨RX11, "whomNow", "(LGateWatch$Plan;)I"⟩
def RX12 : String := "GateWatchModel"
def TX12 : u_T := fun k => match k with
  | 0 => ("GateWatchModel", "thrown", "I", false)
  | 1 => ("GateWatchModel", "s", "[I", true)
  | 2 => ("GateWatchModel", "image", "[I", true)
  | 3 => ("GateWatchModel", "hasImage", "Z", false)
  | 4 => ("GateWatchModel", "act", "I", false)
  | 5 => ("GateWatchModel", "spot", "I", false)
  | 6 => ("GateWatchModel", "size", "I", false)
  | 7 => ("GateWatchModel", "isWrong", "Z", false)
  | 8 => ("GateWatchModel", "open", "I", false)
  | 9 => ("GateWatchModel", "truths", "[Z", true)
  | 10 => ("GateWatchModel", "edgeThing", "I", false)
  | 11 => ("GateWatchModel", "edgeMore", "I", false)
  | 12 => ("GateWatchModel", "knownRow", "[I", true)
  | 13 => ("GateWatchModel", "daysRow", "[I", true)
  | 14 => ("GateWatchModel", "bests", "[J", true)
  | 15 => ("GateWatchModel", "nots", "[J", true)
  | 16 => ("GateWatchModel", "lookeds", "[J", true)
  | 17 => ("GateWatchModel", "bestsAt", "[I", true)
  | 18 => ("GateWatchModel", "stamp", "I", false)
  | 19 => ("GateWatchModel", "whose", "I", false)
  | 20 => ("GateWatchModel", "wage", "I", false)
  | 21 => ("GateWatchModel", "worths", "[I", true)
  | 22 => ("GateWatchModel", "keptKnown", "[I", true)
  | 23 => ("GateWatchModel", "keptDays", "[I", true)
  | 24 => ("GateWatchModel", "round", "[I", true)
  | 25 => ("GateWatchModel", "roundMany", "I", false)
  | 26 => ("GateWatchModel", "bestSet", "I", false)
  | 27 => ("GateWatchModel", "sums", "[J", true)
  | 28 => ("GateWatchModel", "bestRound", "[I", true)
  | 29 => ("GateWatchModel", "bodies", "[I", true)
  | 30 => ("GateWatchModel", "ran", "I", false)
  | 31 => ("GateWatchModel", "kind", "I", false)
  | 32 => ("GateWatchModel", "who", "I", false)
  | _ => ("GateWatchModel", "tellsV", "I", false)
def tyX12 : Nat → FieldType := fun k => match k with
  | 0 => .int
  | 1 => .array .int
  | 2 => .array .int
  | 3 => .boolean
  | 4 => .int
  | 5 => .int
  | 6 => .int
  | 7 => .boolean
  | 8 => .int
  | 9 => .array .boolean
  | 10 => .int
  | 11 => .int
  | 12 => .array .int
  | 13 => .array .int
  | 14 => .array .long
  | 15 => .array .long
  | 16 => .array .long
  | 17 => .array .int
  | 18 => .int
  | 19 => .int
  | 20 => .int
  | 21 => .array .int
  | 22 => .array .int
  | 23 => .array .int
  | 24 => .array .int
  | 25 => .int
  | 26 => .int
  | 27 => .array .long
  | 28 => .array .int
  | 29 => .array .int
  | 30 => .int
  | 31 => .int
  | 32 => .int
  | _ => .int
abbrev wsX120 : List Cond := u_ws RX12 TX12 34
theorem nmX12 : ∀ a, a < 34 → ∀ b, b < 34 → a ≠ b → (TX12 a).2.1 ≠ (TX12 b).2.1 := by decide +kernel
theorem tyX12_ok : ∀ k, k < 34 → parseFieldDescriptor (TX12 k).2.2.1 = some (tyX12 k) := by decide +kernel
abbrev cX12_init : ByteArray := prog_14_method_1_code
def yX12_init : MethodName := ⟨RX12, "<init>", "()V"⟩
abbrev cX12_in : ByteArray := prog_14_method_3_code
def yX12_in : MethodName := ⟨RX12, "in", "(III)Z"⟩
abbrev cX12_isSort : ByteArray := prog_14_method_4_code
def yX12_isSort : MethodName := ⟨RX12, "isSort", "(I)Z"⟩
abbrev cX12_isThing : ByteArray := prog_14_method_5_code
def yX12_isThing : MethodName := ⟨RX12, "isThing", "(I)Z"⟩
abbrev cX12_isPlan : ByteArray := prog_14_method_6_code
def yX12_isPlan : MethodName := ⟨RX12, "isPlan", "(I)Z"⟩
abbrev cX12_count1 : ByteArray := prog_14_method_7_code
def yX12_count1 : MethodName := ⟨RX12, "count1", "(I)I"⟩
abbrev cX12_feed : ByteArray := prog_14_method_8_code
def yX12_feed : MethodName := ⟨RX12, "feed", "(JI)I"⟩
abbrev cX12_here : ByteArray := prog_14_method_9_code
def yX12_here : MethodName := ⟨RX12, "here", "()I"⟩
abbrev cX12_must : ByteArray := prog_14_method_10_code
def yX12_must : MethodName := ⟨RX12, "must", "(I)V"⟩
abbrev cX12_spells : ByteArray := prog_14_method_11_code
def yX12_spells : MethodName := ⟨RX12, "spells", "(Ljava/lang/String;)V"⟩
abbrev cX12_figures : ByteArray := prog_14_method_12_code
def yX12_figures : MethodName := ⟨RX12, "figures", "()I"⟩
abbrev cX12_emits : ByteArray := prog_14_method_13_code
def yX12_emits : MethodName := ⟨RX12, "emits", "(I)V"⟩
abbrev cX12_factor : ByteArray := prog_14_method_14_code
def yX12_factor : MethodName := ⟨RX12, "factor", "()V"⟩
abbrev cX12_every : ByteArray := prog_14_method_15_code
def yX12_every : MethodName := ⟨RX12, "every", "()V"⟩
abbrev cX12_some : ByteArray := prog_14_method_16_code
def yX12_some : MethodName := ⟨RX12, "some", "()V"⟩
abbrev cX12_changes : ByteArray := prog_14_method_17_code
def yX12_changes : MethodName := ⟨RX12, "changes", "(I)V"⟩
abbrev cX12_tells : ByteArray := prog_14_method_18_code
def yX12_tells : MethodName := ⟨RX12, "tells", "(ILjava/lang/String;)V"⟩
abbrev cX12_clause : ByteArray := prog_14_method_19_code
def yX12_clause : MethodName := ⟨RX12, "clause", "()V"⟩
abbrev cX12_sort : ByteArray := prog_14_method_20_code
def yX12_sort : MethodName := ⟨RX12, "sort", "()I"⟩
abbrev cX12_summed : ByteArray := prog_14_method_21_code
def yX12_summed : MethodName := ⟨RX12, "summed", "(IIII)I"⟩
abbrev cX12_told : ByteArray := prog_14_method_22_code
def yX12_told : MethodName := ⟨RX12, "told", "(IIII)I"⟩
abbrev cX12_thing : ByteArray := prog_14_method_23_code
def yX12_thing : MethodName := ⟨RX12, "thing", "(II)I"⟩
abbrev cX12_of : ByteArray := prog_14_method_24_code
def yX12_of : MethodName := ⟨RX12, "of", "(II)I"⟩
abbrev cX12_illOf : ByteArray := prog_14_method_25_code
def yX12_illOf : MethodName := ⟨RX12, "illOf", "(II)I"⟩
abbrev cX12_healOf : ByteArray := prog_14_method_26_code
def yX12_healOf : MethodName := ⟨RX12, "healOf", "(II)I"⟩
abbrev cX12_value : ByteArray := prog_14_method_27_code
def yX12_value : MethodName := ⟨RX12, "value", "(II)I"⟩
abbrev cX12_overOf : ByteArray := prog_14_method_28_code
def yX12_overOf : MethodName := ⟨RX12, "overOf", "(III)I"⟩
abbrev cX12_later : ByteArray := prog_14_method_29_code
def yX12_later : MethodName := ⟨RX12, "later", "(I)I"⟩
abbrev cX12_over : ByteArray := prog_14_method_30_code
def yX12_over : MethodName := ⟨RX12, "over", "()V"⟩
abbrev cX12_days : ByteArray := prog_14_method_31_code
def yX12_days : MethodName := ⟨RX12, "days", "(I)I"⟩
abbrev cX12_seen : ByteArray := prog_14_method_32_code
def yX12_seen : MethodName := ⟨RX12, "seen", "(IZ)I"⟩
abbrev cX12_brings : ByteArray := prog_14_method_33_code
def yX12_brings : MethodName := ⟨RX12, "brings", "(II)J"⟩
abbrev cX12_rowsOf : ByteArray := prog_14_method_34_code
def yX12_rowsOf : MethodName := ⟨RX12, "rowsOf", "(I)V"⟩
abbrev cX12_bestOf : ByteArray := prog_14_method_35_code
def yX12_bestOf : MethodName := ⟨RX12, "bestOf", "(II)J"⟩
abbrev cX12_bestBy : ByteArray := prog_14_method_36_code
def yX12_bestBy : MethodName := ⟨RX12, "bestBy", "(II)J"⟩
abbrev cX12_best : ByteArray := prog_14_method_37_code
def yX12_best : MethodName := ⟨RX12, "best", "(IIII)J"⟩
abbrev cX12_isNoWorse : ByteArray := prog_14_method_38_code
def yX12_isNoWorse : MethodName := ⟨RX12, "isNoWorse", "(II)Z"⟩
abbrev cX12_numberOf : ByteArray := prog_14_method_39_code
def yX12_numberOf : MethodName := ⟨RX12, "numberOf", "(II)I"⟩
abbrev cX12_number : ByteArray := prog_14_method_40_code
def yX12_number : MethodName := ⟨RX12, "number", "(II)I"⟩
abbrev cX12_such : ByteArray := prog_14_method_41_code
def yX12_such : MethodName := ⟨RX12, "such", "(II)I"⟩
abbrev cX12_looks : ByteArray := prog_14_method_42_code
def yX12_looks : MethodName := ⟨RX12, "looks", "(I)I"⟩
abbrev cX12_looking : ByteArray := prog_14_method_43_code
def yX12_looking : MethodName := ⟨RX12, "looking", "()I"⟩
abbrev cX12_plan : ByteArray := prog_14_method_44_code
def yX12_plan : MethodName := ⟨RX12, "plan", "(II)I"⟩
abbrev cX12_row : ByteArray := prog_14_method_45_code
def yX12_row : MethodName := ⟨RX12, "row", "(II)I"⟩
abbrev cX12_worth : ByteArray := prog_14_method_46_code
def yX12_worth : MethodName := ⟨RX12, "worth", "(II)I"⟩
abbrev cX12_greatest : ByteArray := prog_14_method_47_code
def yX12_greatest : MethodName := ⟨RX12, "greatest", "(I)I"⟩
abbrev cX12_turned : ByteArray := prog_14_method_48_code
def yX12_turned : MethodName := ⟨RX12, "turned", "(I)I"⟩
abbrev cX12_toldOn : ByteArray := prog_14_method_49_code
def yX12_toldOn : MethodName := ⟨RX12, "toldOn", "(II)I"⟩
abbrev cX12_whomOn : ByteArray := prog_14_method_50_code
def yX12_whomOn : MethodName := ⟨RX12, "whomOn", "(II)I"⟩
abbrev cX12_whom : ByteArray := prog_14_method_51_code
def yX12_whom : MethodName := ⟨RX12, "whom", "(I)I"⟩
abbrev cX12_lookedAt : ByteArray := prog_14_method_52_code
def yX12_lookedAt : MethodName := ⟨RX12, "lookedAt", "(II)I"⟩
abbrev cX12_bringsAll : ByteArray := prog_14_method_53_code
def yX12_bringsAll : MethodName := ⟨RX12, "bringsAll", "()J"⟩
abbrev cX12_meanFrom : ByteArray := prog_14_method_54_code
def yX12_meanFrom : MethodName := ⟨RX12, "meanFrom", "(III)J"⟩
abbrev cX12_looksFrom : ByteArray := prog_14_method_55_code
def yX12_looksFrom : MethodName := ⟨RX12, "looksFrom", "(IIIII)J"⟩
abbrev cX12_mean : ByteArray := prog_14_method_56_code
def yX12_mean : MethodName := ⟨RX12, "mean", "(II)J"⟩
abbrev cX12_allOf : ByteArray := prog_14_method_57_code
def yX12_allOf : MethodName := ⟨RX12, "allOf", "(I)J"⟩
abbrev cX12_all : ByteArray := prog_14_method_58_code
def yX12_all : MethodName := ⟨RX12, "all", "(II)J"⟩
abbrev cX12_loses : ByteArray := prog_14_method_59_code
def yX12_loses : MethodName := ⟨RX12, "loses", "(II)J"⟩
abbrev cX12_bound : ByteArray := prog_14_method_60_code
def yX12_bound : MethodName := ⟨RX12, "bound", "(I)J"⟩
abbrev cX12_shows : ByteArray := prog_14_method_61_code
def yX12_shows : MethodName := ⟨RX12, "shows", "(IZ)V"⟩
abbrev cX12_doubt : ByteArray := prog_14_method_62_code
def yX12_doubt : MethodName := ⟨RX12, "doubt", "(I)J"⟩
abbrev cX12_judged : ByteArray := prog_14_method_63_code
def yX12_judged : MethodName := ⟨RX12, "judged", "(II)I"⟩
abbrev cX12_lookNow : ByteArray := prog_14_method_64_code
def yX12_lookNow : MethodName := ⟨RX12, "lookNow", "(I)J"⟩
abbrev cX12_turns : ByteArray := prog_14_method_65_code
def yX12_turns : MethodName := ⟨RX12, "turns", "(II)V"⟩
abbrev cX12_run : ByteArray := prog_14_method_66_code
def yX12_run : MethodName := ⟨RX12, "run", "(III)J"⟩
abbrev cX12_round : ByteArray := prog_14_method_67_code
def yX12_round : MethodName := ⟨RX12, "round", "(II)J"⟩
abbrev cX12_weight : ByteArray := prog_14_method_68_code
def yX12_weight : MethodName := ⟨RX12, "weight", "(II)I"⟩
abbrev cX12_tour : ByteArray := prog_14_method_69_code
def yX12_tour : MethodName := ⟨RX12, "tour", "(II)I"⟩
abbrev cX12_firstOf : ByteArray := prog_14_method_70_code
def yX12_firstOf : MethodName := ⟨RX12, "firstOf", "(II)I"⟩
abbrev cX12_edge : ByteArray := prog_14_method_71_code
def yX12_edge : MethodName := ⟨RX12, "edge", "(II)I"⟩
abbrev cX12_runs : ByteArray := prog_14_method_72_code
def yX12_runs : MethodName := ⟨RX12, "runs", "(I)V"⟩
abbrev cX12_isUnder : ByteArray := prog_14_method_73_code
def yX12_isUnder : MethodName := ⟨RX12, "isUnder", "(II)Z"⟩
abbrev cX12_plainMeans : ByteArray := prog_14_method_74_code
def yX12_plainMeans : MethodName := ⟨RX12, "plainMeans", "(I)I"⟩
abbrev cX12_meansActs : ByteArray := prog_14_method_75_code
def yX12_meansActs : MethodName := ⟨RX12, "meansActs", "(I)I"⟩
abbrev cX12_plainRows : ByteArray := prog_14_method_76_code
def yX12_plainRows : MethodName := ⟨RX12, "plainRows", "(I)I"⟩
abbrev cX12_rowsActs : ByteArray := prog_14_method_77_code
def yX12_rowsActs : MethodName := ⟨RX12, "rowsActs", "(I)I"⟩
abbrev cX12_plainEnds : ByteArray := prog_14_method_78_code
def yX12_plainEnds : MethodName := ⟨RX12, "plainEnds", "(I)I"⟩
abbrev cX12_endsActs : ByteArray := prog_14_method_79_code
def yX12_endsActs : MethodName := ⟨RX12, "endsActs", "(I)I"⟩
abbrev cX12_act : ByteArray := prog_14_method_80_code
def yX12_act : MethodName := ⟨RX12, "act", "(III)I"⟩
abbrev cX12_trace : ByteArray := prog_14_method_81_code
def yX12_trace : MethodName := ⟨RX12, "trace", "(I)I"⟩
abbrev cX12_as : ByteArray := prog_14_method_82_code
def yX12_as : MethodName := ⟨RX12, "as", "(II)I"⟩
abbrev cX12_image : ByteArray := prog_14_method_83_code
def yX12_image : MethodName := ⟨RX12, "image", "()I"⟩
abbrev cX12_undo : ByteArray := prog_14_method_84_code
def yX12_undo : MethodName := ⟨RX12, "undo", "()I"⟩
abbrev cX12_count : ByteArray := prog_14_method_85_code
def yX12_count : MethodName := ⟨RX12, "count", "(I)I"⟩
def RJx145de : String := "java/io/Serializable"
def TJx145de : u_T := fun k => match k with
  | _ => ("", "", "", false)
def tyJx145de : Nat → FieldType := fun k => match k with
  | _ => .int
abbrev wsJx145de0 : List Cond := u_ws RJx145de TJx145de 0
theorem nmJx145de : ∀ a, a < 0 → ∀ b, b < 0 → a ≠ b → (TJx145de a).2.1 ≠ (TJx145de b).2.1 := by decide +kernel
theorem tyJx145de_ok : ∀ k, k < 0 → parseFieldDescriptor (TJx145de k).2.2.1 = some (tyJx145de k) := by decide +kernel
def RJx9f9b0 : String := "java/lang/CharSequence"
def TJx9f9b0 : u_T := fun k => match k with
  | _ => ("", "", "", false)
def tyJx9f9b0 : Nat → FieldType := fun k => match k with
  | _ => .int
abbrev wsJx9f9b00 : List Cond := u_ws RJx9f9b0 TJx9f9b0 0
theorem nmJx9f9b0 : ∀ a, a < 0 → ∀ b, b < 0 → a ≠ b → (TJx9f9b0 a).2.1 ≠ (TJx9f9b0 b).2.1 := by decide +kernel
theorem tyJx9f9b0_ok : ∀ k, k < 0 → parseFieldDescriptor (TJx9f9b0 k).2.2.1 = some (tyJx9f9b0 k) := by decide +kernel
def RJx8e188 : String := "java/lang/Cloneable"
def TJx8e188 : u_T := fun k => match k with
  | _ => ("", "", "", false)
def tyJx8e188 : Nat → FieldType := fun k => match k with
  | _ => .int
abbrev wsJx8e1880 : List Cond := u_ws RJx8e188 TJx8e188 0
theorem nmJx8e188 : ∀ a, a < 0 → ∀ b, b < 0 → a ≠ b → (TJx8e188 a).2.1 ≠ (TJx8e188 b).2.1 := by decide +kernel
theorem tyJx8e188_ok : ∀ k, k < 0 → parseFieldDescriptor (TJx8e188 k).2.2.1 = some (tyJx8e188 k) := by decide +kernel
def RJxb160c : String := "java/lang/Comparable"
def TJxb160c : u_T := fun k => match k with
  | _ => ("", "", "", false)
def tyJxb160c : Nat → FieldType := fun k => match k with
  | _ => .int
abbrev wsJxb160c0 : List Cond := u_ws RJxb160c TJxb160c 0
theorem nmJxb160c : ∀ a, a < 0 → ∀ b, b < 0 → a ≠ b → (TJxb160c a).2.1 ≠ (TJxb160c b).2.1 := by decide +kernel
theorem tyJxb160c_ok : ∀ k, k < 0 → parseFieldDescriptor (TJxb160c k).2.2.1 = some (tyJxb160c k) := by decide +kernel
def RJ6 : String := "java/lang/Integer"
def TJ6 : u_T := fun k => match k with
  | _ => ("", "", "", false)
def tyJ6 : Nat → FieldType := fun k => match k with
  | _ => .int
abbrev wsJ60 : List Cond := u_ws RJ6 TJ6 0
theorem nmJ6 : ∀ a, a < 0 → ∀ b, b < 0 → a ≠ b → (TJ6 a).2.1 ≠ (TJ6 b).2.1 := by decide +kernel
theorem tyJ6_ok : ∀ k, k < 0 → parseFieldDescriptor (TJ6 k).2.2.1 = some (tyJ6 k) := by decide +kernel
abbrev cJ6_highestOneBit_0f7a4 : ByteArray := prog_16_method_45_code
def yJ6_highestOneBit_0f7a4 : MethodName := ⟨RJ6, "highestOneBit", "(I)I"⟩
abbrev cJ6_numberOfLeadingZeros_0f7a4 : ByteArray := prog_16_method_47_code
def yJ6_numberOfLeadingZeros_0f7a4 : MethodName := ⟨RJ6, "numberOfLeadingZeros", "(I)I"⟩
abbrev cJ6_numberOfTrailingZeros_0f7a4 : ByteArray := prog_16_method_48_code
def yJ6_numberOfTrailingZeros_0f7a4 : MethodName := ⟨RJ6, "numberOfTrailingZeros", "(I)I"⟩
abbrev cJ6_bitCount_0f7a4 : ByteArray := prog_16_method_49_code
def yJ6_bitCount_0f7a4 : MethodName := ⟨RJ6, "bitCount", "(I)I"⟩
def RJ9 : String := "java/lang/Math"
def TJ9 : u_T := fun k => match k with
  | _ => ("", "", "", false)
def tyJ9 : Nat → FieldType := fun k => match k with
  | _ => .int
abbrev wsJ90 : List Cond := u_ws RJ9 TJ9 0
theorem nmJ9 : ∀ a, a < 0 → ∀ b, b < 0 → a ≠ b → (TJ9 a).2.1 ≠ (TJ9 b).2.1 := by decide +kernel
theorem tyJ9_ok : ∀ k, k < 0 → parseFieldDescriptor (TJ9 k).2.2.1 = some (tyJ9 k) := by decide +kernel
abbrev cJ9_max_7cf53 : ByteArray := prog_17_method_65_code
def yJ9_max_7cf53 : MethodName := ⟨RJ9, "max", "(II)I"⟩
abbrev cJ9_max_f86c9 : ByteArray := prog_17_method_66_code
def yJ9_max_f86c9 : MethodName := ⟨RJ9, "max", "(JJ)J"⟩
abbrev cJ9_min_7cf53 : ByteArray := prog_17_method_69_code
def yJ9_min_7cf53 : MethodName := ⟨RJ9, "min", "(II)I"⟩
abbrev cJ9_min_f86c9 : ByteArray := prog_17_method_70_code
def yJ9_min_f86c9 : MethodName := ⟨RJ9, "min", "(JJ)J"⟩
def RJxd2413 : String := "java/lang/Number"
def TJxd2413 : u_T := fun k => match k with
  | _ => ("", "", "", false)
def tyJxd2413 : Nat → FieldType := fun k => match k with
  | _ => .int
abbrev wsJxd24130 : List Cond := u_ws RJxd2413 TJxd2413 0
theorem nmJxd2413 : ∀ a, a < 0 → ∀ b, b < 0 → a ≠ b → (TJxd2413 a).2.1 ≠ (TJxd2413 b).2.1 := by decide +kernel
theorem tyJxd2413_ok : ∀ k, k < 0 → parseFieldDescriptor (TJxd2413 k).2.2.1 = some (tyJxd2413 k) := by decide +kernel
def RJ0 : String := "java/lang/String"
def TJ0 : u_T := fun k => match k with
  | _ => ("", "", "", false)
def tyJ0 : Nat → FieldType := fun k => match k with
  | _ => .int
abbrev wsJ00 : List Cond := u_ws RJ0 TJ0 0
theorem nmJ0 : ∀ a, a < 0 → ∀ b, b < 0 → a ≠ b → (TJ0 a).2.1 ≠ (TJ0 b).2.1 := by decide +kernel
theorem tyJ0_ok : ∀ k, k < 0 → parseFieldDescriptor (TJ0 k).2.2.1 = some (tyJ0 k) := by decide +kernel
abbrev cJ0_length_8abf5 : ByteArray := prog_19_method_54_code
def yJ0_length_8abf5 : MethodName := ⟨RJ0, "length", "()I"⟩
abbrev cJ0_charAt_5068e : ByteArray := prog_19_method_56_code
def yJ0_charAt_5068e : MethodName := ⟨RJ0, "charAt", "(I)C"⟩
abbrev cJ0_coder_7d493 : ByteArray := prog_19_method_152_code
def yJ0_coder_7d493 : MethodName := ⟨RJ0, "coder", "()B"⟩
abbrev cJ0_isLatin1_aae02 : ByteArray := prog_19_method_154_code
def yJ0_isLatin1_aae02 : MethodName := ⟨RJ0, "isLatin1", "()Z"⟩
abbrev cJ0_checkIndex_df160 : ByteArray := prog_19_method_155_code
def yJ0_checkIndex_df160 : MethodName := ⟨RJ0, "checkIndex", "(II)V"⟩
def RJ1 : String := "java/lang/StringLatin1"
def TJ1 : u_T := fun k => match k with
  | _ => ("", "", "", false)
def tyJ1 : Nat → FieldType := fun k => match k with
  | _ => .int
abbrev wsJ10 : List Cond := u_ws RJ1 TJ1 0
theorem nmJ1 : ∀ a, a < 0 → ∀ b, b < 0 → a ≠ b → (TJ1 a).2.1 ≠ (TJ1 b).2.1 := by decide +kernel
theorem tyJ1_ok : ∀ k, k < 0 → parseFieldDescriptor (TJ1 k).2.2.1 = some (tyJ1 k) := by decide +kernel
abbrev cJ1_charAt_3b067 : ByteArray := prog_20_method_2_code
def yJ1_charAt_3b067 : MethodName := ⟨RJ1, "charAt", "([BI)C"⟩
def RJ2 : String := "java/lang/StringUTF16"
def TJ2 : u_T := fun k => match k with
  | _ => ("", "", "", false)
def tyJ2 : Nat → FieldType := fun k => match k with
  | _ => .int
abbrev wsJ20 : List Cond := u_ws RJ2 TJ2 0
theorem nmJ2 : ∀ a, a < 0 → ∀ b, b < 0 → a ≠ b → (TJ2 a).2.1 ≠ (TJ2 b).2.1 := by decide +kernel
theorem tyJ2_ok : ∀ k, k < 0 → parseFieldDescriptor (TJ2 k).2.2.1 = some (tyJ2 k) := by decide +kernel
abbrev cJ2_getChar_3b067 : ByteArray := prog_21_method_5_code
def yJ2_getChar_3b067 : MethodName := ⟨RJ2, "getChar", "([BI)C"⟩
abbrev cJ2_length_9d52b : ByteArray := prog_21_method_6_code
def yJ2_length_9d52b : MethodName := ⟨RJ2, "length", "([B)I"⟩
abbrev cJ2_charAt_3b067 : ByteArray := prog_21_method_83_code
def yJ2_charAt_3b067 : MethodName := ⟨RJ2, "charAt", "([BI)C"⟩
abbrev cJ2_checkIndex_2214a : ByteArray := prog_21_method_91_code
def yJ2_checkIndex_2214a : MethodName := ⟨RJ2, "checkIndex", "(I[B)V"⟩
def RJ10 : String := "java/lang/System"
def TJ10 : u_T := fun k => match k with
  | _ => ("", "", "", false)
def tyJ10 : Nat → FieldType := fun k => match k with
  | _ => .int
abbrev wsJ100 : List Cond := u_ws RJ10 TJ10 0
theorem nmJ10 : ∀ a, a < 0 → ∀ b, b < 0 → a ≠ b → (TJ10 a).2.1 ≠ (TJ10 b).2.1 := by decide +kernel
theorem tyJ10_ok : ∀ k, k < 0 → parseFieldDescriptor (TJ10 k).2.2.1 = some (tyJ10 k) := by decide +kernel
def RJxfd54e : String := "java/lang/constant/Constable"
def TJxfd54e : u_T := fun k => match k with
  | _ => ("", "", "", false)
def tyJxfd54e : Nat → FieldType := fun k => match k with
  | _ => .int
abbrev wsJxfd54e0 : List Cond := u_ws RJxfd54e TJxfd54e 0
theorem nmJxfd54e : ∀ a, a < 0 → ∀ b, b < 0 → a ≠ b → (TJxfd54e a).2.1 ≠ (TJxfd54e b).2.1 := by decide +kernel
theorem tyJxfd54e_ok : ∀ k, k < 0 → parseFieldDescriptor (TJxfd54e k).2.2.1 = some (tyJxfd54e k) := by decide +kernel
def RJx3cf43 : String := "java/lang/constant/ConstantDesc"
def TJx3cf43 : u_T := fun k => match k with
  | _ => ("", "", "", false)
def tyJx3cf43 : Nat → FieldType := fun k => match k with
  | _ => .int
abbrev wsJx3cf430 : List Cond := u_ws RJx3cf43 TJx3cf43 0
theorem nmJx3cf43 : ∀ a, a < 0 → ∀ b, b < 0 → a ≠ b → (TJx3cf43 a).2.1 ≠ (TJx3cf43 b).2.1 := by decide +kernel
theorem tyJx3cf43_ok : ∀ k, k < 0 → parseFieldDescriptor (TJx3cf43 k).2.2.1 = some (tyJx3cf43 k) := by decide +kernel
def RJ7 : String := "java/util/Arrays"
def TJ7 : u_T := fun k => match k with
  | _ => ("", "", "", false)
def tyJ7 : Nat → FieldType := fun k => match k with
  | _ => .int
abbrev wsJ70 : List Cond := u_ws RJ7 TJ7 0
theorem nmJ7 : ∀ a, a < 0 → ∀ b, b < 0 → a ≠ b → (TJ7 a).2.1 ≠ (TJ7 b).2.1 := by decide +kernel
theorem tyJ7_ok : ∀ k, k < 0 → parseFieldDescriptor (TJ7 k).2.2.1 = some (tyJ7 k) := by decide +kernel
abbrev cJ7_fill_d0a16 : ByteArray := prog_23_method_101_code
def yJ7_fill_d0a16 : MethodName := ⟨RJ7, "fill", "([JJ)V"⟩
abbrev cJ7_fill_53178 : ByteArray := prog_23_method_103_code
def yJ7_fill_53178 : MethodName := ⟨RJ7, "fill", "([II)V"⟩
abbrev cJ7_copyOf_9075b : ByteArray := prog_23_method_121_code
def yJ7_copyOf_9075b : MethodName := ⟨RJ7, "copyOf", "([BI)[B"⟩
def RJ3 : String := "jdk/internal/util/Preconditions"
def TJ3 : u_T := fun k => match k with
  | _ => ("", "", "", false)
def tyJ3 : Nat → FieldType := fun k => match k with
  | _ => .int
abbrev wsJ30 : List Cond := u_ws RJ3 TJ3 0
theorem nmJ3 : ∀ a, a < 0 → ∀ b, b < 0 → a ≠ b → (TJ3 a).2.1 ≠ (TJ3 b).2.1 := by decide +kernel
theorem tyJ3_ok : ∀ k, k < 0 → parseFieldDescriptor (TJ3 k).2.2.1 = some (tyJ3 k) := by decide +kernel
abbrev cJ3_checkIndex_8e157 : ByteArray := prog_24_method_11_code
def yJ3_checkIndex_8e157 : MethodName := ⟨RJ3, "checkIndex", "(IILjava/util/function/BiFunction;)I"⟩
def RL : String := "GateWatchLaw"
abbrev cL_law : ByteArray := code
def yL_law : MethodName := ⟨RL, "law", "([I)Z"⟩
abbrev vwCl : List vw_C := [(RX0, TX0, 18), (RX1, TX1, 2), (RX2, TX2, 2), (RX3, TX3, 2), (RX4, TX4, 2), (RX5, TX5, 9), (RX6, TX6, 2), (RX7, TX7, 10), (RX8, TX8, 2), (RX9, TX9, 11), (RX10, TX10, 2), (RX11, TX11, 7), (RX12, TX12, 34)]
