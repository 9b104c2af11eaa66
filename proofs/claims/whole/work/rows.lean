section
-- ===== PART A: goes FIRST, ahead of the names: the tables' words, and 'selects' of the private methods out of them =====
/-- a private method of a class that the tables say can be made, by its rows of tables_1 -/
def lw_okq (q : MethodName × Nat) : Prop := (q.1.cls ≠ "java/lang/invoke/MethodHandle" ∧ q.1.cls ≠ "java/lang/invoke/VarHandle") ∧ Cond.instantiable q.1.cls q.2 ∈ tables_1 ∧ Cond.privateMethod q.1 ∈ tables_1 ∧ Cond.instanceMethod q.1 ∈ tables_1
theorem lw_p0 : lw_okq (⟨"SugarSaint", "finding", "(I)I"⟩, 8) := ⟨⟨by decide +kernel, by decide +kernel⟩, List.mem_of_getElem? (i := 19) (by decide +kernel), List.mem_of_getElem? (i := 321) (by decide +kernel), List.mem_of_getElem? (i := 322) (by decide +kernel)⟩
theorem lw_p1 : lw_okq (⟨"SugarSaint", "costsIn", "(LSugarSaint$Town;II)I"⟩, 8) := ⟨⟨by decide +kernel, by decide +kernel⟩, List.mem_of_getElem? (i := 19) (by decide +kernel), List.mem_of_getElem? (i := 481) (by decide +kernel), List.mem_of_getElem? (i := 482) (by decide +kernel)⟩
theorem lw_p2 : lw_okq (⟨"SugarSaint", "findWays", "(I)I"⟩, 8) := ⟨⟨by decide +kernel, by decide +kernel⟩, List.mem_of_getElem? (i := 19) (by decide +kernel), List.mem_of_getElem? (i := 490) (by decide +kernel), List.mem_of_getElem? (i := 491) (by decide +kernel)⟩
theorem lw_p3 : lw_okq (⟨"SugarSaint", "isPastPlanning", "()Z"⟩, 8) := ⟨⟨by decide +kernel, by decide +kernel⟩, List.mem_of_getElem? (i := 19) (by decide +kernel), List.mem_of_getElem? (i := 494) (by decide +kernel), List.mem_of_getElem? (i := 495) (by decide +kernel)⟩
theorem lw_p4 : lw_okq (⟨"SugarSaint", "seekWays", "(I)V"⟩, 8) := ⟨⟨by decide +kernel, by decide +kernel⟩, List.mem_of_getElem? (i := 19) (by decide +kernel), List.mem_of_getElem? (i := 498) (by decide +kernel), List.mem_of_getElem? (i := 499) (by decide +kernel)⟩
theorem lw_p5 : lw_okq (⟨"SugarSaint$Seeker", "walk", "(IIIIII)V"⟩, 17) := ⟨⟨by decide +kernel, by decide +kernel⟩, List.mem_of_getElem? (i := 164) (by decide +kernel), List.mem_of_getElem? (i := 527) (by decide +kernel), List.mem_of_getElem? (i := 528) (by decide +kernel)⟩
theorem lw_p6 : lw_okq (⟨"SugarSaint$Seeker", "note", "(III)V"⟩, 17) := ⟨⟨by decide +kernel, by decide +kernel⟩, List.mem_of_getElem? (i := 164) (by decide +kernel), List.mem_of_getElem? (i := 531) (by decide +kernel), List.mem_of_getElem? (i := 532) (by decide +kernel)⟩
theorem lw_p7 : lw_okq (⟨"SugarSaint$Seeker", "closeRound", "(IIIII)V"⟩, 17) := ⟨⟨by decide +kernel, by decide +kernel⟩, List.mem_of_getElem? (i := 164) (by decide +kernel), List.mem_of_getElem? (i := 537) (by decide +kernel), List.mem_of_getElem? (i := 538) (by decide +kernel)⟩
theorem lw_p8 : lw_okq (⟨"SugarSaint$Seeker", "seenAt", "(III)I"⟩, 17) := ⟨⟨by decide +kernel, by decide +kernel⟩, List.mem_of_getElem? (i := 164) (by decide +kernel), List.mem_of_getElem? (i := 542) (by decide +kernel), List.mem_of_getElem? (i := 543) (by decide +kernel)⟩
theorem lw_p9 : lw_okq (⟨"SugarSaint", "seekRounds", "(LSugarSaint$Town;II)V"⟩, 8) := ⟨⟨by decide +kernel, by decide +kernel⟩, List.mem_of_getElem? (i := 19) (by decide +kernel), List.mem_of_getElem? (i := 565) (by decide +kernel), List.mem_of_getElem? (i := 566) (by decide +kernel)⟩
theorem lw_p10 : lw_okq (⟨"SugarSaint$Reader", "advance", "()V"⟩, 8) := ⟨⟨by decide +kernel, by decide +kernel⟩, List.mem_of_getElem? (i := 227) (by decide +kernel), List.mem_of_getElem? (i := 670) (by decide +kernel), List.mem_of_getElem? (i := 671) (by decide +kernel)⟩
theorem lw_p11 : lw_okq (⟨"SugarSaint$Reader", "byteAt", "(I)I"⟩, 8) := ⟨⟨by decide +kernel, by decide +kernel⟩, List.mem_of_getElem? (i := 227) (by decide +kernel), List.mem_of_getElem? (i := 674) (by decide +kernel), List.mem_of_getElem? (i := 675) (by decide +kernel)⟩
theorem lw_p12 : lw_okq (⟨"SugarSaint$Reader", "readItem", "()Z"⟩, 8) := ⟨⟨by decide +kernel, by decide +kernel⟩, List.mem_of_getElem? (i := 227) (by decide +kernel), List.mem_of_getElem? (i := 685) (by decide +kernel), List.mem_of_getElem? (i := 686) (by decide +kernel)⟩
theorem lw_p13 : lw_okq (⟨"SugarSaint$Reader", "kindByWord", "()I"⟩, 8) := ⟨⟨by decide +kernel, by decide +kernel⟩, List.mem_of_getElem? (i := 227) (by decide +kernel), List.mem_of_getElem? (i := 689) (by decide +kernel), List.mem_of_getElem? (i := 690) (by decide +kernel)⟩
theorem lw_p14 : lw_okq (⟨"SugarSaint$Reader", "isWord", "(Ljava/lang/String;)Z"⟩, 8) := ⟨⟨by decide +kernel, by decide +kernel⟩, List.mem_of_getElem? (i := 227) (by decide +kernel), List.mem_of_getElem? (i := 703) (by decide +kernel), List.mem_of_getElem? (i := 704) (by decide +kernel)⟩
theorem lw_p15 : lw_okq (⟨"SugarSaint$Reader", "readStreet", "(I)Z"⟩, 8) := ⟨⟨by decide +kernel, by decide +kernel⟩, List.mem_of_getElem? (i := 227) (by decide +kernel), List.mem_of_getElem? (i := 756) (by decide +kernel), List.mem_of_getElem? (i := 757) (by decide +kernel)⟩
def lw_privs_1 : List (MethodName × Nat) := [(⟨"SugarSaint", "finding", "(I)I"⟩, 8), (⟨"SugarSaint", "costsIn", "(LSugarSaint$Town;II)I"⟩, 8), (⟨"SugarSaint", "findWays", "(I)I"⟩, 8), (⟨"SugarSaint", "isPastPlanning", "()Z"⟩, 8), (⟨"SugarSaint", "seekWays", "(I)V"⟩, 8), (⟨"SugarSaint$Seeker", "walk", "(IIIIII)V"⟩, 17), (⟨"SugarSaint$Seeker", "note", "(III)V"⟩, 17), (⟨"SugarSaint$Seeker", "closeRound", "(IIIII)V"⟩, 17), (⟨"SugarSaint$Seeker", "seenAt", "(III)I"⟩, 17), (⟨"SugarSaint", "seekRounds", "(LSugarSaint$Town;II)V"⟩, 8), (⟨"SugarSaint$Reader", "advance", "()V"⟩, 8), (⟨"SugarSaint$Reader", "byteAt", "(I)I"⟩, 8), (⟨"SugarSaint$Reader", "readItem", "()Z"⟩, 8), (⟨"SugarSaint$Reader", "kindByWord", "()I"⟩, 8), (⟨"SugarSaint$Reader", "isWord", "(Ljava/lang/String;)Z"⟩, 8), (⟨"SugarSaint$Reader", "readStreet", "(I)Z"⟩, 8)]
theorem lw_r1 : ∀ q ∈ lw_privs_1, lw_okq q := List.forall_mem_cons.mpr ⟨lw_p0, List.forall_mem_cons.mpr ⟨lw_p1, List.forall_mem_cons.mpr ⟨lw_p2, List.forall_mem_cons.mpr ⟨lw_p3, List.forall_mem_cons.mpr ⟨lw_p4, List.forall_mem_cons.mpr ⟨lw_p5, List.forall_mem_cons.mpr ⟨lw_p6, List.forall_mem_cons.mpr ⟨lw_p7, List.forall_mem_cons.mpr ⟨lw_p8, List.forall_mem_cons.mpr ⟨lw_p9, List.forall_mem_cons.mpr ⟨lw_p10, List.forall_mem_cons.mpr ⟨lw_p11, List.forall_mem_cons.mpr ⟨lw_p12, List.forall_mem_cons.mpr ⟨lw_p13, List.forall_mem_cons.mpr ⟨lw_p14, List.forall_mem_cons.mpr ⟨lw_p15, fun _ h => absurd h List.not_mem_nil⟩⟩⟩⟩⟩⟩⟩⟩⟩⟩⟩⟩⟩⟩⟩⟩
theorem lw_p16 : lw_okq (⟨"SugarSaint$Reader", "isNumber", "(II)Z"⟩, 8) := ⟨⟨by decide +kernel, by decide +kernel⟩, List.mem_of_getElem? (i := 227) (by decide +kernel), List.mem_of_getElem? (i := 760) (by decide +kernel), List.mem_of_getElem? (i := 761) (by decide +kernel)⟩
theorem lw_p17 : lw_okq (⟨"SugarSaint$Reader", "readSpell", "()Z"⟩, 8) := ⟨⟨by decide +kernel, by decide +kernel⟩, List.mem_of_getElem? (i := 227) (by decide +kernel), List.mem_of_getElem? (i := 769) (by decide +kernel), List.mem_of_getElem? (i := 770) (by decide +kernel)⟩
theorem lw_p18 : lw_okq (⟨"SugarSaint$Reader", "readWeather", "(Ljava/lang/String;[II)Z"⟩, 8) := ⟨⟨by decide +kernel, by decide +kernel⟩, List.mem_of_getElem? (i := 227) (by decide +kernel), List.mem_of_getElem? (i := 774) (by decide +kernel), List.mem_of_getElem? (i := 775) (by decide +kernel)⟩
theorem lw_p19 : lw_okq (⟨"SugarSaint$Reader", "readQuarter", "()Z"⟩, 8) := ⟨⟨by decide +kernel, by decide +kernel⟩, List.mem_of_getElem? (i := 227) (by decide +kernel), List.mem_of_getElem? (i := 780) (by decide +kernel), List.mem_of_getElem? (i := 781) (by decide +kernel)⟩
theorem lw_p20 : lw_okq (⟨"SugarSaintModel", "finding", "(I)I"⟩, 31) := ⟨⟨by decide +kernel, by decide +kernel⟩, List.mem_of_getElem? (i := 885) (by decide +kernel), List.mem_of_getElem? (i := 1008) (by decide +kernel), List.mem_of_getElem? (i := 1009) (by decide +kernel)⟩
theorem lw_p21 : lw_okq (⟨"SugarSaintModel", "comes", "(IIIII)I"⟩, 31) := ⟨⟨by decide +kernel, by decide +kernel⟩, List.mem_of_getElem? (i := 885) (by decide +kernel), List.mem_of_getElem? (i := 1013) (by decide +kernel), List.mem_of_getElem? (i := 1014) (by decide +kernel)⟩
theorem lw_p22 : lw_okq (⟨"SugarSaintModel", "isStreet", "(I)Z"⟩, 31) := ⟨⟨by decide +kernel, by decide +kernel⟩, List.mem_of_getElem? (i := 885) (by decide +kernel), List.mem_of_getElem? (i := 1026) (by decide +kernel), List.mem_of_getElem? (i := 1027) (by decide +kernel)⟩
theorem lw_p23 : lw_okq (⟨"SugarSaintModel", "takes", "(I)I"⟩, 31) := ⟨⟨by decide +kernel, by decide +kernel⟩, List.mem_of_getElem? (i := 885) (by decide +kernel), List.mem_of_getElem? (i := 1030) (by decide +kernel), List.mem_of_getElem? (i := 1031) (by decide +kernel)⟩
theorem lw_p24 : lw_okq (⟨"SugarSaintModel", "streetIs", "(II)I"⟩, 31) := ⟨⟨by decide +kernel, by decide +kernel⟩, List.mem_of_getElem? (i := 885) (by decide +kernel), List.mem_of_getElem? (i := 1034) (by decide +kernel), List.mem_of_getElem? (i := 1035) (by decide +kernel)⟩
theorem lw_p25 : lw_okq (⟨"SugarSaintModel", "licks", "(I)I"⟩, 31) := ⟨⟨by decide +kernel, by decide +kernel⟩, List.mem_of_getElem? (i := 885) (by decide +kernel), List.mem_of_getElem? (i := 1044) (by decide +kernel), List.mem_of_getElem? (i := 1045) (by decide +kernel)⟩
theorem lw_p26 : lw_okq (⟨"SugarSaintModel", "become", "(II)I"⟩, 31) := ⟨⟨by decide +kernel, by decide +kernel⟩, List.mem_of_getElem? (i := 885) (by decide +kernel), List.mem_of_getElem? (i := 1052) (by decide +kernel), List.mem_of_getElem? (i := 1053) (by decide +kernel)⟩
theorem lw_p27 : lw_okq (⟨"SugarSaintModel", "lossOf", "(II)I"⟩, 31) := ⟨⟨by decide +kernel, by decide +kernel⟩, List.mem_of_getElem? (i := 885) (by decide +kernel), List.mem_of_getElem? (i := 1071) (by decide +kernel), List.mem_of_getElem? (i := 1072) (by decide +kernel)⟩
theorem lw_p28 : lw_okq (⟨"SugarSaintModel", "nextTo", "(I)I"⟩, 31) := ⟨⟨by decide +kernel, by decide +kernel⟩, List.mem_of_getElem? (i := 885) (by decide +kernel), List.mem_of_getElem? (i := 1079) (by decide +kernel), List.mem_of_getElem? (i := 1080) (by decide +kernel)⟩
theorem lw_p29 : lw_okq (⟨"SugarSaintModel", "streetBy", "(II)I"⟩, 31) := ⟨⟨by decide +kernel, by decide +kernel⟩, List.mem_of_getElem? (i := 885) (by decide +kernel), List.mem_of_getElem? (i := 1083) (by decide +kernel), List.mem_of_getElem? (i := 1084) (by decide +kernel)⟩
theorem lw_p30 : lw_okq (⟨"SugarSaintModel", "allGrains", "()I"⟩, 31) := ⟨⟨by decide +kernel, by decide +kernel⟩, List.mem_of_getElem? (i := 885) (by decide +kernel), List.mem_of_getElem? (i := 1100) (by decide +kernel), List.mem_of_getElem? (i := 1101) (by decide +kernel)⟩
theorem lw_p31 : lw_okq (⟨"SugarSaintModel", "isTooLate", "(I)Z"⟩, 31) := ⟨⟨by decide +kernel, by decide +kernel⟩, List.mem_of_getElem? (i := 885) (by decide +kernel), List.mem_of_getElem? (i := 1112) (by decide +kernel), List.mem_of_getElem? (i := 1113) (by decide +kernel)⟩
def lw_privs_2 : List (MethodName × Nat) := [(⟨"SugarSaint$Reader", "isNumber", "(II)Z"⟩, 8), (⟨"SugarSaint$Reader", "readSpell", "()Z"⟩, 8), (⟨"SugarSaint$Reader", "readWeather", "(Ljava/lang/String;[II)Z"⟩, 8), (⟨"SugarSaint$Reader", "readQuarter", "()Z"⟩, 8), (⟨"SugarSaintModel", "finding", "(I)I"⟩, 31), (⟨"SugarSaintModel", "comes", "(IIIII)I"⟩, 31), (⟨"SugarSaintModel", "isStreet", "(I)Z"⟩, 31), (⟨"SugarSaintModel", "takes", "(I)I"⟩, 31), (⟨"SugarSaintModel", "streetIs", "(II)I"⟩, 31), (⟨"SugarSaintModel", "licks", "(I)I"⟩, 31), (⟨"SugarSaintModel", "become", "(II)I"⟩, 31), (⟨"SugarSaintModel", "lossOf", "(II)I"⟩, 31), (⟨"SugarSaintModel", "nextTo", "(I)I"⟩, 31), (⟨"SugarSaintModel", "streetBy", "(II)I"⟩, 31), (⟨"SugarSaintModel", "allGrains", "()I"⟩, 31), (⟨"SugarSaintModel", "isTooLate", "(I)Z"⟩, 31)]
theorem lw_r2 : ∀ q ∈ lw_privs_2, lw_okq q := List.forall_mem_cons.mpr ⟨lw_p16, List.forall_mem_cons.mpr ⟨lw_p17, List.forall_mem_cons.mpr ⟨lw_p18, List.forall_mem_cons.mpr ⟨lw_p19, List.forall_mem_cons.mpr ⟨lw_p20, List.forall_mem_cons.mpr ⟨lw_p21, List.forall_mem_cons.mpr ⟨lw_p22, List.forall_mem_cons.mpr ⟨lw_p23, List.forall_mem_cons.mpr ⟨lw_p24, List.forall_mem_cons.mpr ⟨lw_p25, List.forall_mem_cons.mpr ⟨lw_p26, List.forall_mem_cons.mpr ⟨lw_p27, List.forall_mem_cons.mpr ⟨lw_p28, List.forall_mem_cons.mpr ⟨lw_p29, List.forall_mem_cons.mpr ⟨lw_p30, List.forall_mem_cons.mpr ⟨lw_p31, fun _ h => absurd h List.not_mem_nil⟩⟩⟩⟩⟩⟩⟩⟩⟩⟩⟩⟩⟩⟩⟩⟩
theorem lw_p32 : lw_okq (⟨"SugarSaintModel", "carried", "(II)V"⟩, 31) := ⟨⟨by decide +kernel, by decide +kernel⟩, List.mem_of_getElem? (i := 885) (by decide +kernel), List.mem_of_getElem? (i := 1117) (by decide +kernel), List.mem_of_getElem? (i := 1118) (by decide +kernel)⟩
theorem lw_p33 : lw_okq (⟨"SugarSaintModel", "minuteOn", "(I)V"⟩, 31) := ⟨⟨by decide +kernel, by decide +kernel⟩, List.mem_of_getElem? (i := 885) (by decide +kernel), List.mem_of_getElem? (i := 1121) (by decide +kernel), List.mem_of_getElem? (i := 1122) (by decide +kernel)⟩
theorem lw_p34 : lw_okq (⟨"SugarSaintModel", "costsOf", "(II)I"⟩, 31) := ⟨⟨by decide +kernel, by decide +kernel⟩, List.mem_of_getElem? (i := 885) (by decide +kernel), List.mem_of_getElem? (i := 1143) (by decide +kernel), List.mem_of_getElem? (i := 1144) (by decide +kernel)⟩
theorem lw_p35 : lw_okq (⟨"SugarSaintModel", "refusesWays", "(I)I"⟩, 31) := ⟨⟨by decide +kernel, by decide +kernel⟩, List.mem_of_getElem? (i := 885) (by decide +kernel), List.mem_of_getElem? (i := 1151) (by decide +kernel), List.mem_of_getElem? (i := 1152) (by decide +kernel)⟩
theorem lw_p36 : lw_okq (⟨"SugarSaintModel", "isLate", "()Z"⟩, 31) := ⟨⟨by decide +kernel, by decide +kernel⟩, List.mem_of_getElem? (i := 885) (by decide +kernel), List.mem_of_getElem? (i := 1155) (by decide +kernel), List.mem_of_getElem? (i := 1156) (by decide +kernel)⟩
theorem lw_p37 : lw_okq (⟨"SugarSaintModel", "findWays", "(I)V"⟩, 31) := ⟨⟨by decide +kernel, by decide +kernel⟩, List.mem_of_getElem? (i := 885) (by decide +kernel), List.mem_of_getElem? (i := 1159) (by decide +kernel), List.mem_of_getElem? (i := 1160) (by decide +kernel)⟩
theorem lw_p38 : lw_okq (⟨"SugarSaintModel", "none", "()V"⟩, 31) := ⟨⟨by decide +kernel, by decide +kernel⟩, List.mem_of_getElem? (i := 885) (by decide +kernel), List.mem_of_getElem? (i := 1163) (by decide +kernel), List.mem_of_getElem? (i := 1164) (by decide +kernel)⟩
theorem lw_p39 : lw_okq (⟨"SugarSaintModel", "waysOn", "(IIII)V"⟩, 31) := ⟨⟨by decide +kernel, by decide +kernel⟩, List.mem_of_getElem? (i := 885) (by decide +kernel), List.mem_of_getElem? (i := 1167) (by decide +kernel), List.mem_of_getElem? (i := 1168) (by decide +kernel)⟩
theorem lw_p40 : lw_okq (⟨"SugarSaintModel", "isWhole", "(II)V"⟩, 31) := ⟨⟨by decide +kernel, by decide +kernel⟩, List.mem_of_getElem? (i := 885) (by decide +kernel), List.mem_of_getElem? (i := 1171) (by decide +kernel), List.mem_of_getElem? (i := 1172) (by decide +kernel)⟩
theorem lw_p41 : lw_okq (⟨"SugarSaintModel", "keepAhead", "(I)V"⟩, 31) := ⟨⟨by decide +kernel, by decide +kernel⟩, List.mem_of_getElem? (i := 885) (by decide +kernel), List.mem_of_getElem? (i := 1178) (by decide +kernel), List.mem_of_getElem? (i := 1179) (by decide +kernel)⟩
theorem lw_p42 : lw_okq (⟨"SugarSaintModel", "backTo", "(I)V"⟩, 31) := ⟨⟨by decide +kernel, by decide +kernel⟩, List.mem_of_getElem? (i := 885) (by decide +kernel), List.mem_of_getElem? (i := 1182) (by decide +kernel), List.mem_of_getElem? (i := 1183) (by decide +kernel)⟩
theorem lw_p43 : lw_okq (⟨"SugarSaintModel", "bestRound", "()I"⟩, 31) := ⟨⟨by decide +kernel, by decide +kernel⟩, List.mem_of_getElem? (i := 885) (by decide +kernel), List.mem_of_getElem? (i := 1205) (by decide +kernel), List.mem_of_getElem? (i := 1206) (by decide +kernel)⟩
theorem lw_p44 : lw_okq (⟨"SugarSaintModel", "due", "()I"⟩, 31) := ⟨⟨by decide +kernel, by decide +kernel⟩, List.mem_of_getElem? (i := 885) (by decide +kernel), List.mem_of_getElem? (i := 1209) (by decide +kernel), List.mem_of_getElem? (i := 1210) (by decide +kernel)⟩
theorem lw_p45 : lw_okq (⟨"SugarSaintModel", "roundsOn", "(IIII)V"⟩, 31) := ⟨⟨by decide +kernel, by decide +kernel⟩, List.mem_of_getElem? (i := 885) (by decide +kernel), List.mem_of_getElem? (i := 1213) (by decide +kernel), List.mem_of_getElem? (i := 1214) (by decide +kernel)⟩
theorem lw_p46 : lw_okq (⟨"SugarSaintModel", "nothingTried", "()V"⟩, 31) := ⟨⟨by decide +kernel, by decide +kernel⟩, List.mem_of_getElem? (i := 885) (by decide +kernel), List.mem_of_getElem? (i := 1229) (by decide +kernel), List.mem_of_getElem? (i := 1230) (by decide +kernel)⟩
theorem lw_p47 : lw_okq (⟨"SugarSaintModel", "tried", "(II)V"⟩, 31) := ⟨⟨by decide +kernel, by decide +kernel⟩, List.mem_of_getElem? (i := 885) (by decide +kernel), List.mem_of_getElem? (i := 1233) (by decide +kernel), List.mem_of_getElem? (i := 1234) (by decide +kernel)⟩
def lw_privs_3 : List (MethodName × Nat) := [(⟨"SugarSaintModel", "carried", "(II)V"⟩, 31), (⟨"SugarSaintModel", "minuteOn", "(I)V"⟩, 31), (⟨"SugarSaintModel", "costsOf", "(II)I"⟩, 31), (⟨"SugarSaintModel", "refusesWays", "(I)I"⟩, 31), (⟨"SugarSaintModel", "isLate", "()Z"⟩, 31), (⟨"SugarSaintModel", "findWays", "(I)V"⟩, 31), (⟨"SugarSaintModel", "none", "()V"⟩, 31), (⟨"SugarSaintModel", "waysOn", "(IIII)V"⟩, 31), (⟨"SugarSaintModel", "isWhole", "(II)V"⟩, 31), (⟨"SugarSaintModel", "keepAhead", "(I)V"⟩, 31), (⟨"SugarSaintModel", "backTo", "(I)V"⟩, 31), (⟨"SugarSaintModel", "bestRound", "()I"⟩, 31), (⟨"SugarSaintModel", "due", "()I"⟩, 31), (⟨"SugarSaintModel", "roundsOn", "(IIII)V"⟩, 31), (⟨"SugarSaintModel", "nothingTried", "()V"⟩, 31), (⟨"SugarSaintModel", "tried", "(II)V"⟩, 31)]
theorem lw_r3 : ∀ q ∈ lw_privs_3, lw_okq q := List.forall_mem_cons.mpr ⟨lw_p32, List.forall_mem_cons.mpr ⟨lw_p33, List.forall_mem_cons.mpr ⟨lw_p34, List.forall_mem_cons.mpr ⟨lw_p35, List.forall_mem_cons.mpr ⟨lw_p36, List.forall_mem_cons.mpr ⟨lw_p37, List.forall_mem_cons.mpr ⟨lw_p38, List.forall_mem_cons.mpr ⟨lw_p39, List.forall_mem_cons.mpr ⟨lw_p40, List.forall_mem_cons.mpr ⟨lw_p41, List.forall_mem_cons.mpr ⟨lw_p42, List.forall_mem_cons.mpr ⟨lw_p43, List.forall_mem_cons.mpr ⟨lw_p44, List.forall_mem_cons.mpr ⟨lw_p45, List.forall_mem_cons.mpr ⟨lw_p46, List.forall_mem_cons.mpr ⟨lw_p47, fun _ h => absurd h List.not_mem_nil⟩⟩⟩⟩⟩⟩⟩⟩⟩⟩⟩⟩⟩⟩⟩⟩
theorem lw_p48 : lw_okq (⟨"SugarSaintModel", "bestTried", "()I"⟩, 31) := ⟨⟨by decide +kernel, by decide +kernel⟩, List.mem_of_getElem? (i := 885) (by decide +kernel), List.mem_of_getElem? (i := 1237) (by decide +kernel), List.mem_of_getElem? (i := 1238) (by decide +kernel)⟩
theorem lw_p49 : lw_okq (⟨"SugarSaintModel", "bestWith", "(IIZ)I"⟩, 31) := ⟨⟨by decide +kernel, by decide +kernel⟩, List.mem_of_getElem? (i := 885) (by decide +kernel), List.mem_of_getElem? (i := 1249) (by decide +kernel), List.mem_of_getElem? (i := 1250) (by decide +kernel)⟩
theorem lw_p50 : lw_okq (⟨"SugarSaintModel", "drawn", "(I)I"⟩, 31) := ⟨⟨by decide +kernel, by decide +kernel⟩, List.mem_of_getElem? (i := 885) (by decide +kernel), List.mem_of_getElem? (i := 1273) (by decide +kernel), List.mem_of_getElem? (i := 1274) (by decide +kernel)⟩
theorem lw_p51 : lw_okq (⟨"SugarSaintModel", "sum", "(II)I"⟩, 31) := ⟨⟨by decide +kernel, by decide +kernel⟩, List.mem_of_getElem? (i := 885) (by decide +kernel), List.mem_of_getElem? (i := 1278) (by decide +kernel), List.mem_of_getElem? (i := 1279) (by decide +kernel)⟩
theorem lw_p52 : lw_okq (⟨"SugarSaintModel", "next", "()V"⟩, 31) := ⟨⟨by decide +kernel, by decide +kernel⟩, List.mem_of_getElem? (i := 885) (by decide +kernel), List.mem_of_getElem? (i := 1307) (by decide +kernel), List.mem_of_getElem? (i := 1308) (by decide +kernel)⟩
theorem lw_p53 : lw_okq (⟨"SugarSaintModel", "byteAt", "(I)I"⟩, 31) := ⟨⟨by decide +kernel, by decide +kernel⟩, List.mem_of_getElem? (i := 885) (by decide +kernel), List.mem_of_getElem? (i := 1311) (by decide +kernel), List.mem_of_getElem? (i := 1312) (by decide +kernel)⟩
theorem lw_p54 : lw_okq (⟨"SugarSaintModel", "readItem", "()V"⟩, 31) := ⟨⟨by decide +kernel, by decide +kernel⟩, List.mem_of_getElem? (i := 885) (by decide +kernel), List.mem_of_getElem? (i := 1315) (by decide +kernel), List.mem_of_getElem? (i := 1316) (by decide +kernel)⟩
theorem lw_p55 : lw_okq (⟨"SugarSaintModel", "kindTold", "()I"⟩, 31) := ⟨⟨by decide +kernel, by decide +kernel⟩, List.mem_of_getElem? (i := 885) (by decide +kernel), List.mem_of_getElem? (i := 1319) (by decide +kernel), List.mem_of_getElem? (i := 1320) (by decide +kernel)⟩
theorem lw_p56 : lw_okq (⟨"SugarSaintModel", "isWord", "(Ljava/lang/String;)Z"⟩, 31) := ⟨⟨by decide +kernel, by decide +kernel⟩, List.mem_of_getElem? (i := 885) (by decide +kernel), List.mem_of_getElem? (i := 1323) (by decide +kernel), List.mem_of_getElem? (i := 1324) (by decide +kernel)⟩
theorem lw_p57 : lw_okq (⟨"SugarSaintModel", "must", "(Z)V"⟩, 31) := ⟨⟨by decide +kernel, by decide +kernel⟩, List.mem_of_getElem? (i := 885) (by decide +kernel), List.mem_of_getElem? (i := 1329) (by decide +kernel), List.mem_of_getElem? (i := 1330) (by decide +kernel)⟩
theorem lw_p58 : lw_okq (⟨"SugarSaintModel", "number", "(II)I"⟩, 31) := ⟨⟨by decide +kernel, by decide +kernel⟩, List.mem_of_getElem? (i := 885) (by decide +kernel), List.mem_of_getElem? (i := 1333) (by decide +kernel), List.mem_of_getElem? (i := 1334) (by decide +kernel)⟩
theorem lw_p59 : lw_okq (⟨"SugarSaintModel", "isNext", "(Ljava/lang/String;)Z"⟩, 31) := ⟨⟨by decide +kernel, by decide +kernel⟩, List.mem_of_getElem? (i := 885) (by decide +kernel), List.mem_of_getElem? (i := 1338) (by decide +kernel), List.mem_of_getElem? (i := 1339) (by decide +kernel)⟩
theorem lw_p60 : lw_okq (⟨"SugarSaintModel", "row", "(IIIII)V"⟩, 31) := ⟨⟨by decide +kernel, by decide +kernel⟩, List.mem_of_getElem? (i := 885) (by decide +kernel), List.mem_of_getElem? (i := 1343) (by decide +kernel), List.mem_of_getElem? (i := 1344) (by decide +kernel)⟩
theorem lw_p61 : lw_okq (⟨"SugarSaintModel", "isSo", "(I)I"⟩, 31) := ⟨⟨by decide +kernel, by decide +kernel⟩, List.mem_of_getElem? (i := 885) (by decide +kernel), List.mem_of_getElem? (i := 1353) (by decide +kernel), List.mem_of_getElem? (i := 1354) (by decide +kernel)⟩
theorem lw_p62 : lw_okq (⟨"SugarSaintModel", "putBack", "(I)I"⟩, 31) := ⟨⟨by decide +kernel, by decide +kernel⟩, List.mem_of_getElem? (i := 885) (by decide +kernel), List.mem_of_getElem? (i := 1400) (by decide +kernel), List.mem_of_getElem? (i := 1401) (by decide +kernel)⟩
def lw_privs_4 : List (MethodName × Nat) := [(⟨"SugarSaintModel", "bestTried", "()I"⟩, 31), (⟨"SugarSaintModel", "bestWith", "(IIZ)I"⟩, 31), (⟨"SugarSaintModel", "drawn", "(I)I"⟩, 31), (⟨"SugarSaintModel", "sum", "(II)I"⟩, 31), (⟨"SugarSaintModel", "next", "()V"⟩, 31), (⟨"SugarSaintModel", "byteAt", "(I)I"⟩, 31), (⟨"SugarSaintModel", "readItem", "()V"⟩, 31), (⟨"SugarSaintModel", "kindTold", "()I"⟩, 31), (⟨"SugarSaintModel", "isWord", "(Ljava/lang/String;)Z"⟩, 31), (⟨"SugarSaintModel", "must", "(Z)V"⟩, 31), (⟨"SugarSaintModel", "number", "(II)I"⟩, 31), (⟨"SugarSaintModel", "isNext", "(Ljava/lang/String;)Z"⟩, 31), (⟨"SugarSaintModel", "row", "(IIIII)V"⟩, 31), (⟨"SugarSaintModel", "isSo", "(I)I"⟩, 31), (⟨"SugarSaintModel", "putBack", "(I)I"⟩, 31)]
theorem lw_r4 : ∀ q ∈ lw_privs_4, lw_okq q := List.forall_mem_cons.mpr ⟨lw_p48, List.forall_mem_cons.mpr ⟨lw_p49, List.forall_mem_cons.mpr ⟨lw_p50, List.forall_mem_cons.mpr ⟨lw_p51, List.forall_mem_cons.mpr ⟨lw_p52, List.forall_mem_cons.mpr ⟨lw_p53, List.forall_mem_cons.mpr ⟨lw_p54, List.forall_mem_cons.mpr ⟨lw_p55, List.forall_mem_cons.mpr ⟨lw_p56, List.forall_mem_cons.mpr ⟨lw_p57, List.forall_mem_cons.mpr ⟨lw_p58, List.forall_mem_cons.mpr ⟨lw_p59, List.forall_mem_cons.mpr ⟨lw_p60, List.forall_mem_cons.mpr ⟨lw_p61, List.forall_mem_cons.mpr ⟨lw_p62, fun _ h => absurd h List.not_mem_nil⟩⟩⟩⟩⟩⟩⟩⟩⟩⟩⟩⟩⟩⟩⟩
def lw_privs : List (MethodName × Nat) := lw_privs_1 ++ (lw_privs_2 ++ (lw_privs_3 ++ (lw_privs_4)))
def lw_tbl : List Cond := k2_sels lw_privs ++ tables_1
theorem lw_privs_ok : ∀ q ∈ lw_privs, lw_okq q := by
  show ∀ q ∈ lw_privs_1 ++ (lw_privs_2 ++ (lw_privs_3 ++ (lw_privs_4))), lw_okq q
  exact List.forall_mem_append.mpr ⟨lw_r1, List.forall_mem_append.mpr ⟨lw_r2, List.forall_mem_append.mpr ⟨lw_r3, lw_r4⟩⟩⟩
end
section
def RX0 : String := "SugarSaint$Reader"
def TX0 : u_T := fun k => match k with
  | 0 => ("SugarSaint$Reader", "bytes", "[I", true)
  | 1 => ("SugarSaint$Reader", "size", "I", false)
  | 2 => ("SugarSaint$Reader", "town", "LSugarSaint$Town;", true)
  | 3 => ("SugarSaint$Reader", "salt", "I", false)
  | 4 => ("SugarSaint$Reader", "type", "I", false)
  | 5 => ("SugarSaint$Reader", "begin", "I", false)
  | 6 => ("SugarSaint$Reader", "end", "I", false)
  | _ => ("SugarSaint$Reader", "value", "I", false)
def tyX0 : Nat → FieldType := fun k => match k with
  | 0 => .array .int
  | 1 => .int
  | 2 => .object "SugarSaint$Town"
  | 3 => .int
  | 4 => .int
  | 5 => .int
  | 6 => .int
  | _ => .int
theorem nmX0 : ∀ a, a < 8 → ∀ b, b < 8 → a ≠ b → (TX0 a).2.1 ≠ (TX0 b).2.1 := by decide +kernel
theorem tyX0_ok : ∀ k, k < 8 → parseFieldDescriptor (TX0 k).2.2.1 = some (tyX0 k) := by decide +kernel
abbrev cX0_init : ByteArray := prog_2_method_1_code
def yX0_init : MethodName := ⟨RX0, "<init>", "()V"⟩
abbrev cX0_append : ByteArray := prog_2_method_2_code
def yX0_append : MethodName := ⟨RX0, "append", "(I)V"⟩
abbrev cX0_readAll : ByteArray := prog_2_method_3_code
def yX0_readAll : MethodName := ⟨RX0, "readAll", "()I"⟩
abbrev cX0_advance : ByteArray := prog_2_method_4_code
def yX0_advance : MethodName := ⟨RX0, "advance", "()V"⟩
abbrev cX0_readItem : ByteArray := prog_2_method_5_code
def yX0_readItem : MethodName := ⟨RX0, "readItem", "()Z"⟩
abbrev cX0_readStreet : ByteArray := prog_2_method_6_code
def yX0_readStreet : MethodName := ⟨RX0, "readStreet", "(I)Z"⟩
abbrev cX0_readSpell : ByteArray := prog_2_method_7_code
def yX0_readSpell : MethodName := ⟨RX0, "readSpell", "()Z"⟩
abbrev cX0_readWeather : ByteArray := prog_2_method_8_code
def yX0_readWeather : MethodName := ⟨RX0, "readWeather", "(Ljava/lang/String;[II)Z"⟩
abbrev cX0_readQuarter : ByteArray := prog_2_method_9_code
def yX0_readQuarter : MethodName := ⟨RX0, "readQuarter", "()Z"⟩
abbrev cX0_kindByWord : ByteArray := prog_2_method_10_code
def yX0_kindByWord : MethodName := ⟨RX0, "kindByWord", "()I"⟩
abbrev cX0_wordFor : ByteArray := prog_2_method_11_code
def yX0_wordFor : MethodName := ⟨RX0, "wordFor", "(I)Ljava/lang/String;"⟩
abbrev cX0_isWord : ByteArray := prog_2_method_12_code
def yX0_isWord : MethodName := ⟨RX0, "isWord", "(Ljava/lang/String;)Z"⟩
abbrev cX0_isNumber : ByteArray := prog_2_method_13_code
def yX0_isNumber : MethodName := ⟨RX0, "isNumber", "(II)Z"⟩
abbrev cX0_byteAt : ByteArray := prog_2_method_14_code
def yX0_byteAt : MethodName := ⟨RX0, "byteAt", "(I)I"⟩
abbrev cX0_isLetter : ByteArray := prog_2_method_15_code
def yX0_isLetter : MethodName := ⟨RX0, "isLetter", "(I)Z"⟩
abbrev cX0_isDigit : ByteArray := prog_2_method_16_code
def yX0_isDigit : MethodName := ⟨RX0, "isDigit", "(I)Z"⟩
def RX1 : String := "SugarSaint$Saint"
def TX1 : u_T := fun k => match k with
  | 0 => ("SugarSaint$Saint", "grains", "[I", true)
  | 1 => ("SugarSaint$Saint", "salt", "I", false)
  | 2 => ("SugarSaint$Saint", "corner", "I", false)
  | 3 => ("SugarSaint$Saint", "minute", "I", false)
  | 4 => ("SugarSaint$Saint", "seen", "I", false)
  | _ => ("SugarSaint$Saint", "molten", "I", false)
def tyX1 : Nat → FieldType := fun k => match k with
  | 0 => .array .int
  | 1 => .int
  | 2 => .int
  | 3 => .int
  | 4 => .int
  | _ => .int
theorem nmX1 : ∀ a, a < 6 → ∀ b, b < 6 → a ≠ b → (TX1 a).2.1 ≠ (TX1 b).2.1 := by decide +kernel
theorem tyX1_ok : ∀ k, k < 6 → parseFieldDescriptor (TX1 k).2.2.1 = some (tyX1 k) := by decide +kernel
abbrev cX1_init : ByteArray := prog_3_method_1_code
def yX1_init : MethodName := ⟨RX1, "<init>", "()V"⟩
abbrev cX1_takeFrom : ByteArray := prog_3_method_2_code
def yX1_takeFrom : MethodName := ⟨RX1, "takeFrom", "(LSugarSaint$Saint;)V"⟩
abbrev cX1_total : ByteArray := prog_3_method_3_code
def yX1_total : MethodName := ⟨RX1, "total", "()I"⟩
abbrev cX1_faceLasts : ByteArray := prog_3_method_4_code
def yX1_faceLasts : MethodName := ⟨RX1, "faceLasts", "()I"⟩
abbrev cX1_melt : ByteArray := prog_3_method_5_code
def yX1_melt : MethodName := ⟨RX1, "melt", "(I)I"⟩
abbrev cX1_beginDay : ByteArray := prog_3_method_6_code
def yX1_beginDay : MethodName := ⟨RX1, "beginDay", "()V"⟩
abbrev cX1_remake : ByteArray := prog_3_method_7_code
def yX1_remake : MethodName := ⟨RX1, "remake", "()V"⟩
def RX2 : String := "SugarSaint$Scene"
def TX2 : u_T := fun k => match k with
  | 0 => ("SugarSaint$Scene", "town", "LSugarSaint$Town;", true)
  | 1 => ("SugarSaint$Scene", "saint", "LSugarSaint$Saint;", true)
  | 2 => ("SugarSaint$Scene", "spots", "[I", true)
  | _ => ("SugarSaint$Scene", "z", "I", false)
def tyX2 : Nat → FieldType := fun k => match k with
  | 0 => .object "SugarSaint$Town"
  | 1 => .object "SugarSaint$Saint"
  | 2 => .array .int
  | _ => .int
theorem nmX2 : ∀ a, a < 4 → ∀ b, b < 4 → a ≠ b → (TX2 a).2.1 ≠ (TX2 b).2.1 := by decide +kernel
theorem tyX2_ok : ∀ k, k < 4 → parseFieldDescriptor (TX2 k).2.2.1 = some (tyX2 k) := by decide +kernel
abbrev cX2_init : ByteArray := prog_4_method_1_code
def yX2_init : MethodName := ⟨RX2, "<init>", "()V"⟩
abbrev cX2_takeFrom : ByteArray := prog_4_method_2_code
def yX2_takeFrom : MethodName := ⟨RX2, "takeFrom", "(LSugarSaint$Scene;)V"⟩
abbrev cX2_draw : ByteArray := prog_4_method_3_code
def yX2_draw : MethodName := ⟨RX2, "draw", "()I"⟩
abbrev cX2_drawNeighbour : ByteArray := prog_4_method_4_code
def yX2_drawNeighbour : MethodName := ⟨RX2, "drawNeighbour", "()I"⟩
abbrev cX2_isTooLate : ByteArray := prog_4_method_5_code
def yX2_isTooLate : MethodName := ⟨RX2, "isTooLate", "(I)Z"⟩
abbrev cX2_carryAlong : ByteArray := prog_4_method_6_code
def yX2_carryAlong : MethodName := ⟨RX2, "carryAlong", "(II)I"⟩
abbrev cX2_spotsHeld : ByteArray := prog_4_method_7_code
def yX2_spotsHeld : MethodName := ⟨RX2, "spotsHeld", "()I"⟩
def RX3 : String := "SugarSaint$Seeker"
def TX3 : u_T := fun k => match k with
  | 0 => ("SugarSaint$Seeker", "links", "[I", true)
  | 1 => ("SugarSaint$Seeker", "takes", "[I", true)
  | 2 => ("SugarSaint$Seeker", "losses", "[I", true)
  | 3 => ("SugarSaint$Seeker", "quarters", "[I", true)
  | 4 => ("SugarSaint$Seeker", "wanted", "I", false)
  | 5 => ("SugarSaint$Seeker", "origin", "I", false)
  | 6 => ("SugarSaint$Seeker", "total", "I", false)
  | 7 => ("SugarSaint$Seeker", "faceLasts", "I", false)
  | 8 => ("SugarSaint$Seeker", "seenAhead", "I", false)
  | 9 => ("SugarSaint$Seeker", "goal", "I", false)
  | 10 => ("SugarSaint$Seeker", "begin", "I", false)
  | 11 => ("SugarSaint$Seeker", "path", "[I", true)
  | 12 => ("SugarSaint$Seeker", "found", "I", false)
  | 13 => ("SugarSaint$Seeker", "left", "I", false)
  | 14 => ("SugarSaint$Seeker", "fewest", "I", false)
  | 15 => ("SugarSaint$Seeker", "first", "[I", true)
  | _ => ("SugarSaint$Seeker", "firstLength", "I", false)
def tyX3 : Nat → FieldType := fun k => match k with
  | 0 => .array .int
  | 1 => .array .int
  | 2 => .array .int
  | 3 => .array .int
  | 4 => .int
  | 5 => .int
  | 6 => .int
  | 7 => .int
  | 8 => .int
  | 9 => .int
  | 10 => .int
  | 11 => .array .int
  | 12 => .int
  | 13 => .int
  | 14 => .int
  | 15 => .array .int
  | _ => .int
theorem nmX3 : ∀ a, a < 17 → ∀ b, b < 17 → a ≠ b → (TX3 a).2.1 ≠ (TX3 b).2.1 := by decide +kernel
theorem tyX3_ok : ∀ k, k < 17 → parseFieldDescriptor (TX3 k).2.2.1 = some (tyX3 k) := by decide +kernel
abbrev cX3_init : ByteArray := prog_5_method_1_code
def yX3_init : MethodName := ⟨RX3, "<init>", "()V"⟩
abbrev cX3_prepare : ByteArray := prog_5_method_2_code
def yX3_prepare : MethodName := ⟨RX3, "prepare", "(LSugarSaint$Town;LSugarSaint$Saint;II)V"⟩
abbrev cX3_seek : ByteArray := prog_5_method_3_code
def yX3_seek : MethodName := ⟨RX3, "seek", "(II)V"⟩
abbrev cX3_walk : ByteArray := prog_5_method_4_code
def yX3_walk : MethodName := ⟨RX3, "walk", "(IIIIII)V"⟩
abbrev cX3_closeRound : ByteArray := prog_5_method_5_code
def yX3_closeRound : MethodName := ⟨RX3, "closeRound", "(IIIII)V"⟩
abbrev cX3_seenAt : ByteArray := prog_5_method_6_code
def yX3_seenAt : MethodName := ⟨RX3, "seenAt", "(III)I"⟩
abbrev cX3_note : ByteArray := prog_5_method_7_code
def yX3_note : MethodName := ⟨RX3, "note", "(III)V"⟩
def RX4 : String := "SugarSaint$Sheet"
def TX4 : u_T := fun k => match k with
  | 0 => ("SugarSaint$Sheet", "bits", "I", false)
  | 1 => ("SugarSaint$Sheet", "size", "I", false)
  | _ => ("SugarSaint$Sheet", "numbers", "[I", true)
def tyX4 : Nat → FieldType := fun k => match k with
  | 0 => .int
  | 1 => .int
  | _ => .array .int
theorem nmX4 : ∀ a, a < 3 → ∀ b, b < 3 → a ≠ b → (TX4 a).2.1 ≠ (TX4 b).2.1 := by decide +kernel
theorem tyX4_ok : ∀ k, k < 3 → parseFieldDescriptor (TX4 k).2.2.1 = some (tyX4 k) := by decide +kernel
abbrev cX4_init : ByteArray := prog_6_method_1_code
def yX4_init : MethodName := ⟨RX4, "<init>", "()V"⟩
abbrev cX4_isMissing : ByteArray := prog_6_method_2_code
def yX4_isMissing : MethodName := ⟨RX4, "isMissing", "()Z"⟩
abbrev cX4_remake : ByteArray := prog_6_method_3_code
def yX4_remake : MethodName := ⟨RX4, "remake", "(II)V"⟩
abbrev cX4_set : ByteArray := prog_6_method_4_code
def yX4_set : MethodName := ⟨RX4, "set", "(II)V"⟩
abbrev cX4_hasRange : ByteArray := prog_6_method_5_code
def yX4_hasRange : MethodName := ⟨RX4, "hasRange", "(II)Z"⟩
def RX5 : String := "SugarSaint$Street"
def TX5 : u_T := fun k => match k with
  | 0 => ("SugarSaint$Street", "kind", "I", false)
  | 1 => ("SugarSaint$Street", "one", "I", false)
  | 2 => ("SugarSaint$Street", "other", "I", false)
  | 3 => ("SugarSaint$Street", "length", "I", false)
  | _ => ("SugarSaint$Street", "umbrella", "I", false)
def tyX5 : Nat → FieldType := fun k => match k with
  | 0 => .int
  | 1 => .int
  | 2 => .int
  | 3 => .int
  | _ => .int
theorem nmX5 : ∀ a, a < 5 → ∀ b, b < 5 → a ≠ b → (TX5 a).2.1 ≠ (TX5 b).2.1 := by decide +kernel
theorem tyX5_ok : ∀ k, k < 5 → parseFieldDescriptor (TX5 k).2.2.1 = some (tyX5 k) := by decide +kernel
abbrev cX5_init : ByteArray := prog_7_method_1_code
def yX5_init : MethodName := ⟨RX5, "<init>", "()V"⟩
abbrev cX5_takeFrom : ByteArray := prog_7_method_2_code
def yX5_takeFrom : MethodName := ⟨RX5, "takeFrom", "(LSugarSaint$Street;)V"⟩
abbrev cX5_across : ByteArray := prog_7_method_3_code
def yX5_across : MethodName := ⟨RX5, "across", "(I)I"⟩
abbrev cX5_takes : ByteArray := prog_7_method_4_code
def yX5_takes : MethodName := ⟨RX5, "takes", "()I"⟩
abbrev cX5_lossBy : ByteArray := prog_7_method_5_code
def yX5_lossBy : MethodName := ⟨RX5, "lossBy", "(III)I"⟩
abbrev cX5_meltsBySun : ByteArray := prog_7_method_6_code
def yX5_meltsBySun : MethodName := ⟨RX5, "meltsBySun", "(II)I"⟩
abbrev cX5_wets : ByteArray := prog_7_method_7_code
def yX5_wets : MethodName := ⟨RX5, "wets", "(II)I"⟩
abbrev cX5_licks : ByteArray := prog_7_method_8_code
def yX5_licks : MethodName := ⟨RX5, "licks", "(I)I"⟩
abbrev cX5_above : ByteArray := prog_7_method_9_code
def yX5_above : MethodName := ⟨RX5, "above", "(I)I"⟩
abbrev cX5_isUnder : ByteArray := prog_7_method_10_code
def yX5_isUnder : MethodName := ⟨RX5, "isUnder", "(II)Z"⟩
def RX6 : String := "SugarSaint$Town"
def TX6 : u_T := fun k => match k with
  | 0 => ("SugarSaint$Town", "streets", "[LSugarSaint$Street;", true)
  | 1 => ("SugarSaint$Town", "size", "I", false)
  | 2 => ("SugarSaint$Town", "quarters", "[I", true)
  | 3 => ("SugarSaint$Town", "sun", "[I", true)
  | 4 => ("SugarSaint$Town", "rain", "[I", true)
  | _ => ("SugarSaint$Town", "losses", "[I", true)
def tyX6 : Nat → FieldType := fun k => match k with
  | 0 => .array (.object "SugarSaint$Street")
  | 1 => .int
  | 2 => .array .int
  | 3 => .array .int
  | 4 => .array .int
  | _ => .array .int
theorem nmX6 : ∀ a, a < 6 → ∀ b, b < 6 → a ≠ b → (TX6 a).2.1 ≠ (TX6 b).2.1 := by decide +kernel
theorem tyX6_ok : ∀ k, k < 6 → parseFieldDescriptor (TX6 k).2.2.1 = some (tyX6 k) := by decide +kernel
abbrev cX6_init : ByteArray := prog_8_method_1_code
def yX6_init : MethodName := ⟨RX6, "<init>", "()V"⟩
abbrev cX6_takeFrom : ByteArray := prog_8_method_2_code
def yX6_takeFrom : MethodName := ⟨RX6, "takeFrom", "(LSugarSaint$Town;)V"⟩
abbrev cX6_has : ByteArray := prog_8_method_3_code
def yX6_has : MethodName := ⟨RX6, "has", "(I)Z"⟩
abbrev cX6_isFull : ByteArray := prog_8_method_4_code
def yX6_isFull : MethodName := ⟨RX6, "isFull", "()Z"⟩
abbrev cX6_add : ByteArray := prog_8_method_5_code
def yX6_add : MethodName := ⟨RX6, "add", "(IIIII)I"⟩
abbrev cX6_neighbours : ByteArray := prog_8_method_6_code
def yX6_neighbours : MethodName := ⟨RX6, "neighbours", "(I)I"⟩
abbrev cX6_between : ByteArray := prog_8_method_7_code
def yX6_between : MethodName := ⟨RX6, "between", "(II)I"⟩
abbrev cX6_quartersOnStreets : ByteArray := prog_8_method_8_code
def yX6_quartersOnStreets : MethodName := ⟨RX6, "quartersOnStreets", "()I"⟩
abbrev cX6_tellLosses : ByteArray := prog_8_method_9_code
def yX6_tellLosses : MethodName := ⟨RX6, "tellLosses", "(II[II)V"⟩
abbrev cX6_lossAlong : ByteArray := prog_8_method_10_code
def yX6_lossAlong : MethodName := ⟨RX6, "lossAlong", "(III)I"⟩
abbrev cX6_sumAlong : ByteArray := prog_8_method_11_code
def yX6_sumAlong : MethodName := ⟨RX6, "sumAlong", "([IIII)I"⟩
abbrev cX6_takesOfAll : ByteArray := prog_8_method_12_code
def yX6_takesOfAll : MethodName := ⟨RX6, "takesOfAll", "()I"⟩
abbrev cX6_umbrellas : ByteArray := prog_8_method_13_code
def yX6_umbrellas : MethodName := ⟨RX6, "umbrellas", "()I"⟩
def RX7 : String := "SugarSaint"
def TX7 : u_T := fun k => match k with
  | 0 => ("SugarSaint", "scene", "LSugarSaint$Scene;", true)
  | 1 => ("SugarSaint", "kept", "LSugarSaint$Scene;", true)
  | 2 => ("SugarSaint", "hasKept", "Z", false)
  | 3 => ("SugarSaint", "draft", "LSugarSaint$Town;", true)
  | 4 => ("SugarSaint", "seeker", "LSugarSaint$Seeker;", true)
  | 5 => ("SugarSaint", "reader", "LSugarSaint$Reader;", true)
  | 6 => ("SugarSaint", "sheets", "[LSugarSaint$Sheet;", true)
  | _ => ("SugarSaint", "told", "[I", true)
def tyX7 : Nat → FieldType := fun k => match k with
  | 0 => .object "SugarSaint$Scene"
  | 1 => .object "SugarSaint$Scene"
  | 2 => .boolean
  | 3 => .object "SugarSaint$Town"
  | 4 => .object "SugarSaint$Seeker"
  | 5 => .object "SugarSaint$Reader"
  | 6 => .array (.object "SugarSaint$Sheet")
  | _ => .array .int
theorem nmX7 : ∀ a, a < 8 → ∀ b, b < 8 → a ≠ b → (TX7 a).2.1 ≠ (TX7 b).2.1 := by decide +kernel
theorem tyX7_ok : ∀ k, k < 8 → parseFieldDescriptor (TX7 k).2.2.1 = some (tyX7 k) := by decide +kernel
abbrev cX7_init : ByteArray := prog_1_method_1_code
def yX7_init : MethodName := ⟨RX7, "<init>", "()V"⟩
abbrev cX7_street : ByteArray := prog_1_method_2_code
def yX7_street : MethodName := ⟨RX7, "street", "(IIII)I"⟩
abbrev cX7_of : ByteArray := prog_1_method_3_code
def yX7_of : MethodName := ⟨RX7, "of", "(II)I"⟩
abbrev cX7_change : ByteArray := prog_1_method_4_code
def yX7_change : MethodName := ⟨RX7, "change", "(III)I"⟩
abbrev cX7_quarter : ByteArray := prog_1_method_5_code
def yX7_quarter : MethodName := ⟨RX7, "quarter", "(II)I"⟩
abbrev cX7_spell : ByteArray := prog_1_method_6_code
def yX7_spell : MethodName := ⟨RX7, "spell", "(III)I"⟩
abbrev cX7_loss : ByteArray := prog_1_method_7_code
def yX7_loss : MethodName := ⟨RX7, "loss", "(II)I"⟩
abbrev cX7_next : ByteArray := prog_1_method_8_code
def yX7_next : MethodName := ⟨RX7, "next", "(I)I"⟩
abbrev cX7_by : ByteArray := prog_1_method_9_code
def yX7_by : MethodName := ⟨RX7, "by", "(II)I"⟩
abbrev cX7_grains : ByteArray := prog_1_method_10_code
def yX7_grains : MethodName := ⟨RX7, "grains", "(II)I"⟩
abbrev cX7_now : ByteArray := prog_1_method_11_code
def yX7_now : MethodName := ⟨RX7, "now", "(I)I"⟩
abbrev cX7_made : ByteArray := prog_1_method_12_code
def yX7_made : MethodName := ⟨RX7, "made", "(I)I"⟩
abbrev cX7_carry : ByteArray := prog_1_method_13_code
def yX7_carry : MethodName := ⟨RX7, "carry", "(I)I"⟩
abbrev cX7_wait : ByteArray := prog_1_method_14_code
def yX7_wait : MethodName := ⟨RX7, "wait", "(I)I"⟩
abbrev cX7_day : ByteArray := prog_1_method_15_code
def yX7_day : MethodName := ⟨RX7, "day", "()I"⟩
abbrev cX7_costs : ByteArray := prog_1_method_16_code
def yX7_costs : MethodName := ⟨RX7, "costs", "(II)I"⟩
abbrev cX7_most : ByteArray := prog_1_method_17_code
def yX7_most : MethodName := ⟨RX7, "most", "(I)I"⟩
abbrev cX7_way : ByteArray := prog_1_method_18_code
def yX7_way : MethodName := ⟨RX7, "way", "(II)I"⟩
abbrev cX7_soonest : ByteArray := prog_1_method_19_code
def yX7_soonest : MethodName := ⟨RX7, "soonest", "(I)I"⟩
abbrev cX7_ways : ByteArray := prog_1_method_20_code
def yX7_ways : MethodName := ⟨RX7, "ways", "(I)I"⟩
abbrev cX7_round : ByteArray := prog_1_method_21_code
def yX7_round : MethodName := ⟨RX7, "round", "()I"⟩
abbrev cX7_ith : ByteArray := prog_1_method_22_code
def yX7_ith : MethodName := ⟨RX7, "ith", "(I)I"⟩
abbrev cX7_rounds : ByteArray := prog_1_method_23_code
def yX7_rounds : MethodName := ⟨RX7, "rounds", "()I"⟩
abbrev cX7_start : ByteArray := prog_1_method_24_code
def yX7_start : MethodName := ⟨RX7, "start", "()I"⟩
abbrev cX7_better : ByteArray := prog_1_method_25_code
def yX7_better : MethodName := ⟨RX7, "better", "()I"⟩
abbrev cX7_umbrella : ByteArray := prog_1_method_26_code
def yX7_umbrella : MethodName := ⟨RX7, "umbrella", "()I"⟩
abbrev cX7_shade : ByteArray := prog_1_method_27_code
def yX7_shade : MethodName := ⟨RX7, "shade", "()I"⟩
abbrev cX7_needed : ByteArray := prog_1_method_28_code
def yX7_needed : MethodName := ⟨RX7, "needed", "()I"⟩
abbrev cX7_kindFor : ByteArray := prog_1_method_29_code
def yX7_kindFor : MethodName := ⟨RX7, "kindFor", "(I)I"⟩
abbrev cX7_reach : ByteArray := prog_1_method_30_code
def yX7_reach : MethodName := ⟨RX7, "reach", "()I"⟩
abbrev cX7_sky : ByteArray := prog_1_method_31_code
def yX7_sky : MethodName := ⟨RX7, "sky", "(I)I"⟩
abbrev cX7_stray : ByteArray := prog_1_method_32_code
def yX7_stray : MethodName := ⟨RX7, "stray", "(I)I"⟩
abbrev cX7_year : ByteArray := prog_1_method_33_code
def yX7_year : MethodName := ⟨RX7, "year", "()I"⟩
abbrev cX7_seed : ByteArray := prog_1_method_34_code
def yX7_seed : MethodName := ⟨RX7, "seed", "(I)I"⟩
abbrev cX7_feed : ByteArray := prog_1_method_35_code
def yX7_feed : MethodName := ⟨RX7, "feed", "(II)I"⟩
abbrev cX7_wipe : ByteArray := prog_1_method_36_code
def yX7_wipe : MethodName := ⟨RX7, "wipe", "()I"⟩
abbrev cX7_text : ByteArray := prog_1_method_37_code
def yX7_text : MethodName := ⟨RX7, "text", "()I"⟩
abbrev cX7_hold : ByteArray := prog_1_method_38_code
def yX7_hold : MethodName := ⟨RX7, "hold", "(II)I"⟩
abbrev cX7_as : ByteArray := prog_1_method_39_code
def yX7_as : MethodName := ⟨RX7, "as", "(II)I"⟩
abbrev cX7_sheet : ByteArray := prog_1_method_40_code
def yX7_sheet : MethodName := ⟨RX7, "sheet", "(III)I"⟩
abbrev cX7_write : ByteArray := prog_1_method_41_code
def yX7_write : MethodName := ⟨RX7, "write", "(III)I"⟩
abbrev cX7_copy : ByteArray := prog_1_method_42_code
def yX7_copy : MethodName := ⟨RX7, "copy", "(IIIII)I"⟩
abbrev cX7_load : ByteArray := prog_1_method_43_code
def yX7_load : MethodName := ⟨RX7, "load", "(I)I"⟩
abbrev cX7_judge : ByteArray := prog_1_method_44_code
def yX7_judge : MethodName := ⟨RX7, "judge", "(I)I"⟩
abbrev cX7_image : ByteArray := prog_1_method_45_code
def yX7_image : MethodName := ⟨RX7, "image", "()I"⟩
abbrev cX7_undo : ByteArray := prog_1_method_46_code
def yX7_undo : MethodName := ⟨RX7, "undo", "()I"⟩
abbrev cX7_tear : ByteArray := prog_1_method_47_code
def yX7_tear : MethodName := ⟨RX7, "tear", "()I"⟩
abbrev cX7_count : ByteArray := prog_1_method_48_code
def yX7_count : MethodName := ⟨RX7, "count", "(I)I"⟩
abbrev cX7_status : ByteArray := prog_1_method_49_code
def yX7_status : MethodName := ⟨RX7, "status", "(I)I"⟩
abbrev cX7_finding : ByteArray := prog_1_method_50_code
def yX7_finding : MethodName := ⟨RX7, "finding", "(I)I"⟩
abbrev cX7_isPastPlanning : ByteArray := prog_1_method_51_code
def yX7_isPastPlanning : MethodName := ⟨RX7, "isPastPlanning", "()Z"⟩
abbrev cX7_findWays : ByteArray := prog_1_method_52_code
def yX7_findWays : MethodName := ⟨RX7, "findWays", "(I)I"⟩
abbrev cX7_seekWays : ByteArray := prog_1_method_53_code
def yX7_seekWays : MethodName := ⟨RX7, "seekWays", "(I)V"⟩
abbrev cX7_seekRounds : ByteArray := prog_1_method_54_code
def yX7_seekRounds : MethodName := ⟨RX7, "seekRounds", "(LSugarSaint$Town;II)V"⟩
abbrev cX7_costsIn : ByteArray := prog_1_method_55_code
def yX7_costsIn : MethodName := ⟨RX7, "costsIn", "(LSugarSaint$Town;II)I"⟩
abbrev cX7_isIn : ByteArray := prog_1_method_56_code
def yX7_isIn : MethodName := ⟨RX7, "isIn", "(III)Z"⟩
abbrev cX7_isCorner : ByteArray := prog_1_method_57_code
def yX7_isCorner : MethodName := ⟨RX7, "isCorner", "(I)Z"⟩
abbrev cX7_isKind : ByteArray := prog_1_method_58_code
def yX7_isKind : MethodName := ⟨RX7, "isKind", "(I)Z"⟩
abbrev cX7_isSheet : ByteArray := prog_1_method_59_code
def yX7_isSheet : MethodName := ⟨RX7, "isSheet", "(I)Z"⟩
abbrev cX7_isInSet : ByteArray := prog_1_method_60_code
def yX7_isInSet : MethodName := ⟨RX7, "isInSet", "(II)Z"⟩
abbrev cX7_put : ByteArray := prog_1_method_61_code
def yX7_put : MethodName := ⟨RX7, "put", "([III)I"⟩
abbrev cX7_sumOf : ByteArray := prog_1_method_62_code
def yX7_sumOf : MethodName := ⟨RX7, "sumOf", "([I)I"⟩
def RX8 : String := "SugarSaintModel"
def TX8 : u_T := fun k => match k with
  | 0 => ("SugarSaintModel", "now", "[I", true)
  | 1 => ("SugarSaintModel", "kept", "[I", true)
  | 2 => ("SugarSaintModel", "aside", "[I", true)
  | 3 => ("SugarSaintModel", "isKept", "Z", false)
  | 4 => ("SugarSaintModel", "found", "[I", true)
  | 5 => ("SugarSaintModel", "without", "I", false)
  | 6 => ("SugarSaintModel", "ahead", "[I", true)
  | 7 => ("SugarSaintModel", "path", "[I", true)
  | 8 => ("SugarSaintModel", "bestPath", "[I", true)
  | 9 => ("SugarSaintModel", "bestSize", "I", false)
  | 10 => ("SugarSaintModel", "bestLeft", "I", false)
  | 11 => ("SugarSaintModel", "many", "I", false)
  | 12 => ("SugarSaintModel", "fewest", "I", false)
  | 13 => ("SugarSaintModel", "best", "I", false)
  | 14 => ("SugarSaintModel", "most", "I", false)
  | 15 => ("SugarSaintModel", "tape", "[I", true)
  | 16 => ("SugarSaintModel", "taped", "I", false)
  | 17 => ("SugarSaintModel", "begins", "I", false)
  | 18 => ("SugarSaintModel", "ends", "I", false)
  | 19 => ("SugarSaintModel", "sort", "I", false)
  | 20 => ("SugarSaintModel", "value", "I", false)
  | 21 => ("SugarSaintModel", "isWrong", "Z", false)
  | 22 => ("SugarSaintModel", "kinds", "[Ljava/lang/String;", true)
  | 23 => ("SugarSaintModel", "items", "[I", true)
  | 24 => ("SugarSaintModel", "rowMany", "I", false)
  | 25 => ("SugarSaintModel", "itemMany", "I", false)
  | 26 => ("SugarSaintModel", "streetThen", "I", false)
  | 27 => ("SugarSaintModel", "widths", "[I", true)
  | 28 => ("SugarSaintModel", "sizes", "[I", true)
  | 29 => ("SugarSaintModel", "numbers", "[I", true)
  | _ => ("SugarSaintModel", "moved", "[I", true)
def tyX8 : Nat → FieldType := fun k => match k with
  | 0 => .array .int
  | 1 => .array .int
  | 2 => .array .int
  | 3 => .boolean
  | 4 => .array .int
  | 5 => .int
  | 6 => .array .int
  | 7 => .array .int
  | 8 => .array .int
  | 9 => .int
  | 10 => .int
  | 11 => .int
  | 12 => .int
  | 13 => .int
  | 14 => .int
  | 15 => .array .int
  | 16 => .int
  | 17 => .int
  | 18 => .int
  | 19 => .int
  | 20 => .int
  | 21 => .boolean
  | 22 => .array (.object "java/lang/String")
  | 23 => .array .int
  | 24 => .int
  | 25 => .int
  | 26 => .int
  | 27 => .array .int
  | 28 => .array .int
  | 29 => .array .int
  | _ => .array .int
theorem nmX8 : ∀ a, a < 31 → ∀ b, b < 31 → a ≠ b → (TX8 a).2.1 ≠ (TX8 b).2.1 := by decide +kernel
theorem tyX8_ok : ∀ k, k < 31 → parseFieldDescriptor (TX8 k).2.2.1 = some (tyX8 k) := by decide +kernel
abbrev cX8_init : ByteArray := prog_10_method_1_code
def yX8_init : MethodName := ⟨RX8, "<init>", "()V"⟩
abbrev cX8_finding : ByteArray := prog_10_method_2_code
def yX8_finding : MethodName := ⟨RX8, "finding", "(I)I"⟩
abbrev cX8_within : ByteArray := prog_10_method_3_code
def yX8_within : MethodName := ⟨RX8, "within", "(III)Z"⟩
abbrev cX8_become : ByteArray := prog_10_method_4_code
def yX8_become : MethodName := ⟨RX8, "become", "(II)I"⟩
abbrev cX8_copyRow : ByteArray := prog_10_method_5_code
def yX8_copyRow : MethodName := ⟨RX8, "copyRow", "([I[I)V"⟩
abbrev cX8_putBack : ByteArray := prog_10_method_6_code
def yX8_putBack : MethodName := ⟨RX8, "putBack", "(I)I"⟩
abbrev cX8_has : ByteArray := prog_10_method_7_code
def yX8_has : MethodName := ⟨RX8, "has", "(II)Z"⟩
abbrev cX8_bits : ByteArray := prog_10_method_8_code
def yX8_bits : MethodName := ⟨RX8, "bits", "(I)I"⟩
abbrev cX8_isCorner : ByteArray := prog_10_method_9_code
def yX8_isCorner : MethodName := ⟨RX8, "isCorner", "(I)Z"⟩
abbrev cX8_isStreet : ByteArray := prog_10_method_10_code
def yX8_isStreet : MethodName := ⟨RX8, "isStreet", "(I)Z"⟩
abbrev cX8_isKind : ByteArray := prog_10_method_11_code
def yX8_isKind : MethodName := ⟨RX8, "isKind", "(I)Z"⟩
abbrev cX8_at : ByteArray := prog_10_method_12_code
def yX8_at : MethodName := ⟨RX8, "at", "(II)I"⟩
abbrev cX8_streetIs : ByteArray := prog_10_method_13_code
def yX8_streetIs : MethodName := ⟨RX8, "streetIs", "(II)I"⟩
abbrev cX8_comes : ByteArray := prog_10_method_14_code
def yX8_comes : MethodName := ⟨RX8, "comes", "(IIIII)I"⟩
abbrev cX8_street : ByteArray := prog_10_method_15_code
def yX8_street : MethodName := ⟨RX8, "street", "(IIII)I"⟩
abbrev cX8_above : ByteArray := prog_10_method_16_code
def yX8_above : MethodName := ⟨RX8, "above", "(I)I"⟩
abbrev cX8_isUnder : ByteArray := prog_10_method_17_code
def yX8_isUnder : MethodName := ⟨RX8, "isUnder", "(II)Z"⟩
abbrev cX8_takes : ByteArray := prog_10_method_18_code
def yX8_takes : MethodName := ⟨RX8, "takes", "(I)I"⟩
abbrev cX8_licks : ByteArray := prog_10_method_19_code
def yX8_licks : MethodName := ⟨RX8, "licks", "(I)I"⟩
abbrev cX8_lossOf : ByteArray := prog_10_method_20_code
def yX8_lossOf : MethodName := ⟨RX8, "lossOf", "(II)I"⟩
abbrev cX8_of : ByteArray := prog_10_method_21_code
def yX8_of : MethodName := ⟨RX8, "of", "(II)I"⟩
abbrev cX8_change : ByteArray := prog_10_method_22_code
def yX8_change : MethodName := ⟨RX8, "change", "(III)I"⟩
abbrev cX8_quarter : ByteArray := prog_10_method_23_code
def yX8_quarter : MethodName := ⟨RX8, "quarter", "(II)I"⟩
abbrev cX8_isSpell : ByteArray := prog_10_method_24_code
def yX8_isSpell : MethodName := ⟨RX8, "isSpell", "(I)Z"⟩
abbrev cX8_spell : ByteArray := prog_10_method_25_code
def yX8_spell : MethodName := ⟨RX8, "spell", "(III)I"⟩
abbrev cX8_loss : ByteArray := prog_10_method_26_code
def yX8_loss : MethodName := ⟨RX8, "loss", "(II)I"⟩
abbrev cX8_streetBy : ByteArray := prog_10_method_27_code
def yX8_streetBy : MethodName := ⟨RX8, "streetBy", "(II)I"⟩
abbrev cX8_nextTo : ByteArray := prog_10_method_28_code
def yX8_nextTo : MethodName := ⟨RX8, "nextTo", "(I)I"⟩
abbrev cX8_next : ByteArray := prog_10_method_29_code
def yX8_next : MethodName := ⟨RX8, "next", "(I)I"⟩
abbrev cX8_by : ByteArray := prog_10_method_30_code
def yX8_by : MethodName := ⟨RX8, "by", "(II)I"⟩
abbrev cX8_grains : ByteArray := prog_10_method_31_code
def yX8_grains : MethodName := ⟨RX8, "grains", "(II)I"⟩
abbrev cX8_allGrains : ByteArray := prog_10_method_32_code
def yX8_allGrains : MethodName := ⟨RX8, "allGrains", "()I"⟩
abbrev cX8_now : ByteArray := prog_10_method_33_code
def yX8_now : MethodName := ⟨RX8, "now", "(I)I"⟩
abbrev cX8_made : ByteArray := prog_10_method_34_code
def yX8_made : MethodName := ⟨RX8, "made", "(I)I"⟩
abbrev cX8_spellOf : ByteArray := prog_10_method_35_code
def yX8_spellOf : MethodName := ⟨RX8, "spellOf", "(I)I"⟩
abbrev cX8_minuteOn : ByteArray := prog_10_method_36_code
def yX8_minuteOn : MethodName := ⟨RX8, "minuteOn", "(I)V"⟩
abbrev cX8_carried : ByteArray := prog_10_method_37_code
def yX8_carried : MethodName := ⟨RX8, "carried", "(II)V"⟩
abbrev cX8_isTooLate : ByteArray := prog_10_method_38_code
def yX8_isTooLate : MethodName := ⟨RX8, "isTooLate", "(I)Z"⟩
abbrev cX8_carry : ByteArray := prog_10_method_39_code
def yX8_carry : MethodName := ⟨RX8, "carry", "(I)I"⟩
abbrev cX8_wait : ByteArray := prog_10_method_40_code
def yX8_wait : MethodName := ⟨RX8, "wait", "(I)I"⟩
abbrev cX8_day : ByteArray := prog_10_method_41_code
def yX8_day : MethodName := ⟨RX8, "day", "()I"⟩
abbrev cX8_costsOf : ByteArray := prog_10_method_42_code
def yX8_costsOf : MethodName := ⟨RX8, "costsOf", "(II)I"⟩
abbrev cX8_costs : ByteArray := prog_10_method_43_code
def yX8_costs : MethodName := ⟨RX8, "costs", "(II)I"⟩
abbrev cX8_keepAhead : ByteArray := prog_10_method_44_code
def yX8_keepAhead : MethodName := ⟨RX8, "keepAhead", "(I)V"⟩
abbrev cX8_backTo : ByteArray := prog_10_method_45_code
def yX8_backTo : MethodName := ⟨RX8, "backTo", "(I)V"⟩
abbrev cX8_isWhole : ByteArray := prog_10_method_46_code
def yX8_isWhole : MethodName := ⟨RX8, "isWhole", "(II)V"⟩
abbrev cX8_none : ByteArray := prog_10_method_47_code
def yX8_none : MethodName := ⟨RX8, "none", "()V"⟩
abbrev cX8_waysOn : ByteArray := prog_10_method_48_code
def yX8_waysOn : MethodName := ⟨RX8, "waysOn", "(IIII)V"⟩
abbrev cX8_findWays : ByteArray := prog_10_method_49_code
def yX8_findWays : MethodName := ⟨RX8, "findWays", "(I)V"⟩
abbrev cX8_isLate : ByteArray := prog_10_method_50_code
def yX8_isLate : MethodName := ⟨RX8, "isLate", "()Z"⟩
abbrev cX8_refusesWays : ByteArray := prog_10_method_51_code
def yX8_refusesWays : MethodName := ⟨RX8, "refusesWays", "(I)I"⟩
abbrev cX8_most : ByteArray := prog_10_method_52_code
def yX8_most : MethodName := ⟨RX8, "most", "(I)I"⟩
abbrev cX8_isPlace : ByteArray := prog_10_method_53_code
def yX8_isPlace : MethodName := ⟨RX8, "isPlace", "(I)Z"⟩
abbrev cX8_way : ByteArray := prog_10_method_54_code
def yX8_way : MethodName := ⟨RX8, "way", "(II)I"⟩
abbrev cX8_soonest : ByteArray := prog_10_method_55_code
def yX8_soonest : MethodName := ⟨RX8, "soonest", "(I)I"⟩
abbrev cX8_ways : ByteArray := prog_10_method_56_code
def yX8_ways : MethodName := ⟨RX8, "ways", "(I)I"⟩
abbrev cX8_due : ByteArray := prog_10_method_57_code
def yX8_due : MethodName := ⟨RX8, "due", "()I"⟩
abbrev cX8_roundsOn : ByteArray := prog_10_method_58_code
def yX8_roundsOn : MethodName := ⟨RX8, "roundsOn", "(IIII)V"⟩
abbrev cX8_bestRound : ByteArray := prog_10_method_59_code
def yX8_bestRound : MethodName := ⟨RX8, "bestRound", "()I"⟩
abbrev cX8_round : ByteArray := prog_10_method_60_code
def yX8_round : MethodName := ⟨RX8, "round", "()I"⟩
abbrev cX8_ith : ByteArray := prog_10_method_61_code
def yX8_ith : MethodName := ⟨RX8, "ith", "(I)I"⟩
abbrev cX8_rounds : ByteArray := prog_10_method_62_code
def yX8_rounds : MethodName := ⟨RX8, "rounds", "()I"⟩
abbrev cX8_tried : ByteArray := prog_10_method_63_code
def yX8_tried : MethodName := ⟨RX8, "tried", "(II)V"⟩
abbrev cX8_nothingTried : ByteArray := prog_10_method_64_code
def yX8_nothingTried : MethodName := ⟨RX8, "nothingTried", "()V"⟩
abbrev cX8_bestTried : ByteArray := prog_10_method_65_code
def yX8_bestTried : MethodName := ⟨RX8, "bestTried", "()I"⟩
abbrev cX8_start : ByteArray := prog_10_method_66_code
def yX8_start : MethodName := ⟨RX8, "start", "()I"⟩
abbrev cX8_better : ByteArray := prog_10_method_67_code
def yX8_better : MethodName := ⟨RX8, "better", "()I"⟩
abbrev cX8_bestWith : ByteArray := prog_10_method_68_code
def yX8_bestWith : MethodName := ⟨RX8, "bestWith", "(IIZ)I"⟩
abbrev cX8_umbrella : ByteArray := prog_10_method_69_code
def yX8_umbrella : MethodName := ⟨RX8, "umbrella", "()I"⟩
abbrev cX8_shade : ByteArray := prog_10_method_70_code
def yX8_shade : MethodName := ⟨RX8, "shade", "()I"⟩
abbrev cX8_needed : ByteArray := prog_10_method_71_code
def yX8_needed : MethodName := ⟨RX8, "needed", "()I"⟩
abbrev cX8_kindFor : ByteArray := prog_10_method_72_code
def yX8_kindFor : MethodName := ⟨RX8, "kindFor", "(I)I"⟩
abbrev cX8_reach : ByteArray := prog_10_method_73_code
def yX8_reach : MethodName := ⟨RX8, "reach", "()I"⟩
abbrev cX8_drawn : ByteArray := prog_10_method_74_code
def yX8_drawn : MethodName := ⟨RX8, "drawn", "(I)I"⟩
abbrev cX8_sum : ByteArray := prog_10_method_75_code
def yX8_sum : MethodName := ⟨RX8, "sum", "(II)I"⟩
abbrev cX8_sky : ByteArray := prog_10_method_76_code
def yX8_sky : MethodName := ⟨RX8, "sky", "(I)I"⟩
abbrev cX8_stray : ByteArray := prog_10_method_77_code
def yX8_stray : MethodName := ⟨RX8, "stray", "(I)I"⟩
abbrev cX8_year : ByteArray := prog_10_method_78_code
def yX8_year : MethodName := ⟨RX8, "year", "()I"⟩
abbrev cX8_seed : ByteArray := prog_10_method_79_code
def yX8_seed : MethodName := ⟨RX8, "seed", "(I)I"⟩
abbrev cX8_feed : ByteArray := prog_10_method_80_code
def yX8_feed : MethodName := ⟨RX8, "feed", "(II)I"⟩
abbrev cX8_wipe : ByteArray := prog_10_method_81_code
def yX8_wipe : MethodName := ⟨RX8, "wipe", "()I"⟩
abbrev cX8_byteAt : ByteArray := prog_10_method_82_code
def yX8_byteAt : MethodName := ⟨RX8, "byteAt", "(I)I"⟩
abbrev cX8_next_ : ByteArray := prog_10_method_83_code
def yX8_next_ : MethodName := ⟨RX8, "next", "()V"⟩
abbrev cX8_isWord : ByteArray := prog_10_method_84_code
def yX8_isWord : MethodName := ⟨RX8, "isWord", "(Ljava/lang/String;)Z"⟩
abbrev cX8_must : ByteArray := prog_10_method_85_code
def yX8_must : MethodName := ⟨RX8, "must", "(Z)V"⟩
abbrev cX8_number : ByteArray := prog_10_method_86_code
def yX8_number : MethodName := ⟨RX8, "number", "(II)I"⟩
abbrev cX8_row : ByteArray := prog_10_method_87_code
def yX8_row : MethodName := ⟨RX8, "row", "(IIIII)V"⟩
abbrev cX8_kindTold : ByteArray := prog_10_method_88_code
def yX8_kindTold : MethodName := ⟨RX8, "kindTold", "()I"⟩
abbrev cX8_isNext : ByteArray := prog_10_method_89_code
def yX8_isNext : MethodName := ⟨RX8, "isNext", "(Ljava/lang/String;)Z"⟩
abbrev cX8_readItem : ByteArray := prog_10_method_90_code
def yX8_readItem : MethodName := ⟨RX8, "readItem", "()V"⟩
abbrev cX8_isSo : ByteArray := prog_10_method_91_code
def yX8_isSo : MethodName := ⟨RX8, "isSo", "(I)I"⟩
abbrev cX8_text : ByteArray := prog_10_method_92_code
def yX8_text : MethodName := ⟨RX8, "text", "()I"⟩
abbrev cX8_isSpot : ByteArray := prog_10_method_93_code
def yX8_isSpot : MethodName := ⟨RX8, "isSpot", "(I)Z"⟩
abbrev cX8_hold : ByteArray := prog_10_method_94_code
def yX8_hold : MethodName := ⟨RX8, "hold", "(II)I"⟩
abbrev cX8_as : ByteArray := prog_10_method_95_code
def yX8_as : MethodName := ⟨RX8, "as", "(II)I"⟩
abbrev cX8_isSheet : ByteArray := prog_10_method_96_code
def yX8_isSheet : MethodName := ⟨RX8, "isSheet", "(I)Z"⟩
abbrev cX8_cutTo : ByteArray := prog_10_method_97_code
def yX8_cutTo : MethodName := ⟨RX8, "cutTo", "(II)I"⟩
abbrev cX8_sheet : ByteArray := prog_10_method_98_code
def yX8_sheet : MethodName := ⟨RX8, "sheet", "(III)I"⟩
abbrev cX8_write : ByteArray := prog_10_method_99_code
def yX8_write : MethodName := ⟨RX8, "write", "(III)I"⟩
abbrev cX8_copy : ByteArray := prog_10_method_100_code
def yX8_copy : MethodName := ⟨RX8, "copy", "(IIIII)I"⟩
abbrev cX8_load : ByteArray := prog_10_method_101_code
def yX8_load : MethodName := ⟨RX8, "load", "(I)I"⟩
abbrev cX8_judge : ByteArray := prog_10_method_102_code
def yX8_judge : MethodName := ⟨RX8, "judge", "(I)I"⟩
abbrev cX8_image : ByteArray := prog_10_method_103_code
def yX8_image : MethodName := ⟨RX8, "image", "()I"⟩
abbrev cX8_undo : ByteArray := prog_10_method_104_code
def yX8_undo : MethodName := ⟨RX8, "undo", "()I"⟩
abbrev cX8_tear : ByteArray := prog_10_method_105_code
def yX8_tear : MethodName := ⟨RX8, "tear", "()I"⟩
abbrev cX8_count : ByteArray := prog_10_method_106_code
def yX8_count : MethodName := ⟨RX8, "count", "(I)I"⟩
abbrev cX8_status : ByteArray := prog_10_method_107_code
def yX8_status : MethodName := ⟨RX8, "status", "(I)I"⟩
def RJ6 : String := "java/lang/Integer"
abbrev cJ6_bitCount_0f7a4 : ByteArray := prog_11_method_49_code
def yJ6_bitCount_0f7a4 : MethodName := ⟨RJ6, "bitCount", "(I)I"⟩
def RJ9 : String := "java/lang/Math"
abbrev cJ9_max_7cf53 : ByteArray := prog_12_method_65_code
def yJ9_max_7cf53 : MethodName := ⟨RJ9, "max", "(II)I"⟩
abbrev cJ9_min_7cf53 : ByteArray := prog_12_method_69_code
def yJ9_min_7cf53 : MethodName := ⟨RJ9, "min", "(II)I"⟩
def RJ0 : String := "java/lang/String"
abbrev cJ0_length_8abf5 : ByteArray := prog_13_method_54_code
def yJ0_length_8abf5 : MethodName := ⟨RJ0, "length", "()I"⟩
abbrev cJ0_charAt_5068e : ByteArray := prog_13_method_56_code
def yJ0_charAt_5068e : MethodName := ⟨RJ0, "charAt", "(I)C"⟩
abbrev cJ0_coder_7d493 : ByteArray := prog_13_method_152_code
def yJ0_coder_7d493 : MethodName := ⟨RJ0, "coder", "()B"⟩
abbrev cJ0_isLatin1_aae02 : ByteArray := prog_13_method_154_code
def yJ0_isLatin1_aae02 : MethodName := ⟨RJ0, "isLatin1", "()Z"⟩
abbrev cJ0_checkIndex_df160 : ByteArray := prog_13_method_155_code
def yJ0_checkIndex_df160 : MethodName := ⟨RJ0, "checkIndex", "(II)V"⟩
def RJ1 : String := "java/lang/StringLatin1"
abbrev cJ1_charAt_3b067 : ByteArray := prog_14_method_2_code
def yJ1_charAt_3b067 : MethodName := ⟨RJ1, "charAt", "([BI)C"⟩
def RJ2 : String := "java/lang/StringUTF16"
abbrev cJ2_getChar_3b067 : ByteArray := prog_15_method_5_code
def yJ2_getChar_3b067 : MethodName := ⟨RJ2, "getChar", "([BI)C"⟩
abbrev cJ2_length_9d52b : ByteArray := prog_15_method_6_code
def yJ2_length_9d52b : MethodName := ⟨RJ2, "length", "([B)I"⟩
abbrev cJ2_charAt_3b067 : ByteArray := prog_15_method_83_code
def yJ2_charAt_3b067 : MethodName := ⟨RJ2, "charAt", "([BI)C"⟩
abbrev cJ2_checkIndex_2214a : ByteArray := prog_15_method_91_code
def yJ2_checkIndex_2214a : MethodName := ⟨RJ2, "checkIndex", "(I[B)V"⟩
def RJ10 : String := "java/lang/System"
def RJ7 : String := "java/util/Arrays"
abbrev cJ7_fill_53178 : ByteArray := prog_17_method_103_code
def yJ7_fill_53178 : MethodName := ⟨RJ7, "fill", "([II)V"⟩
def RJ3 : String := "jdk/internal/util/Preconditions"
abbrev cJ3_checkIndex_8e157 : ByteArray := prog_18_method_11_code
def yJ3_checkIndex_8e157 : MethodName := ⟨RJ3, "checkIndex", "(IILjava/util/function/BiFunction;)I"⟩
def RL : String := "SugarSaintLaw"
abbrev cL_law : ByteArray := code
def yL_law : MethodName := ⟨RL, "law", "([I)Z"⟩
/-! own tables: methods, links -/
abbrev am_MI : Type := Nat × MethodName × ByteArray × Nat × Option FieldType
abbrev mX7_init : am_MI := (7, yX7_init, cX7_init, 2, none)
abbrev mX2_init : am_MI := (2, yX2_init, cX2_init, 2, none)
abbrev mX6_init : am_MI := (6, yX6_init, cX6_init, 2, none)
abbrev mX5_init : am_MI := (5, yX5_init, cX5_init, 1, none)
abbrev mX1_init : am_MI := (1, yX1_init, cX1_init, 1, none)
abbrev mX3_init : am_MI := (3, yX3_init, cX3_init, 1, none)
abbrev mX0_init : am_MI := (0, yX0_init, cX0_init, 1, none)
abbrev mX4_init : am_MI := (4, yX4_init, cX4_init, 1, none)
abbrev mX7_street : am_MI := (7, yX7_street, cX7_street, 5, some .int)
abbrev mX7_isKind : am_MI := (7, yX7_isKind, cX7_isKind, 1, some .boolean)
abbrev mX7_isIn : am_MI := (7, yX7_isIn, cX7_isIn, 3, some .boolean)
abbrev mX7_isCorner : am_MI := (7, yX7_isCorner, cX7_isCorner, 1, some .boolean)
abbrev mX7_finding : am_MI := (7, yX7_finding, cX7_finding, 2, some .int)
abbrev mX6_isFull : am_MI := (6, yX6_isFull, cX6_isFull, 1, some .boolean)
abbrev mX6_add : am_MI := (6, yX6_add, cX6_add, 7, some .int)
abbrev mX7_of : am_MI := (7, yX7_of, cX7_of, 4, some .int)
abbrev mX6_has : am_MI := (6, yX6_has, cX6_has, 2, some .boolean)
abbrev mJ9_min_7cf53 : am_MI := (11, yJ9_min_7cf53, cJ9_min_7cf53, 2, some .int)
abbrev mJ9_max_7cf53 : am_MI := (11, yJ9_max_7cf53, cJ9_max_7cf53, 2, some .int)
abbrev mX5_takes : am_MI := (5, yX5_takes, cX5_takes, 1, some .int)
abbrev mX5_licks : am_MI := (5, yX5_licks, cX5_licks, 1, some .int)
abbrev mX7_change : am_MI := (7, yX7_change, cX7_change, 6, some .int)
abbrev mX7_quarter : am_MI := (7, yX7_quarter, cX7_quarter, 3, some .int)
abbrev mX7_put : am_MI := (7, yX7_put, cX7_put, 4, some .int)
abbrev mX7_spell : am_MI := (7, yX7_spell, cX7_spell, 4, some .int)
abbrev mX7_loss : am_MI := (7, yX7_loss, cX7_loss, 4, some .int)
abbrev mX5_lossBy : am_MI := (5, yX5_lossBy, cX5_lossBy, 6, some .int)
abbrev mX5_meltsBySun : am_MI := (5, yX5_meltsBySun, cX5_meltsBySun, 3, some .int)
abbrev mX5_wets : am_MI := (5, yX5_wets, cX5_wets, 2, some .int)
abbrev mX7_next : am_MI := (7, yX7_next, cX7_next, 2, some .int)
abbrev mX6_neighbours : am_MI := (6, yX6_neighbours, cX6_neighbours, 5, some .int)
abbrev mX5_across : am_MI := (5, yX5_across, cX5_across, 2, some .int)
abbrev mX7_by : am_MI := (7, yX7_by, cX7_by, 4, some .int)
abbrev mX6_between : am_MI := (6, yX6_between, cX6_between, 4, some .int)
abbrev mX7_grains : am_MI := (7, yX7_grains, cX7_grains, 3, some .int)
abbrev mX7_now : am_MI := (7, yX7_now, cX7_now, 3, some .int)
abbrev mX1_total : am_MI := (1, yX1_total, cX1_total, 1, some .int)
abbrev mX7_sumOf : am_MI := (7, yX7_sumOf, cX7_sumOf, 6, some .int)
abbrev mX7_made : am_MI := (7, yX7_made, cX7_made, 3, some .int)
abbrev mX7_carry : am_MI := (7, yX7_carry, cX7_carry, 3, some .int)
abbrev mX2_isTooLate : am_MI := (2, yX2_isTooLate, cX2_isTooLate, 2, some .boolean)
abbrev mX2_carryAlong : am_MI := (2, yX2_carryAlong, cX2_carryAlong, 4, some .int)
abbrev mX6_lossAlong : am_MI := (6, yX6_lossAlong, cX6_lossAlong, 4, some .int)
abbrev mX6_tellLosses : am_MI := (6, yX6_tellLosses, cX6_tellLosses, 7, none)
abbrev mX6_sumAlong : am_MI := (6, yX6_sumAlong, cX6_sumAlong, 9, some .int)
abbrev mX1_melt : am_MI := (1, yX1_melt, cX1_melt, 5, some .int)
abbrev mX7_wait : am_MI := (7, yX7_wait, cX7_wait, 2, some .int)
abbrev mX7_day : am_MI := (7, yX7_day, cX7_day, 2, some .int)
abbrev mJ6_bitCount_0f7a4 : am_MI := (10, yJ6_bitCount_0f7a4, cJ6_bitCount_0f7a4, 1, some .int)
abbrev mX1_beginDay : am_MI := (1, yX1_beginDay, cX1_beginDay, 1, none)
abbrev mX7_costs : am_MI := (7, yX7_costs, cX7_costs, 3, some .int)
abbrev mX7_costsIn : am_MI := (7, yX7_costsIn, cX7_costsIn, 4, some .int)
abbrev mX7_most : am_MI := (7, yX7_most, cX7_most, 3, some .int)
abbrev mX7_findWays : am_MI := (7, yX7_findWays, cX7_findWays, 2, some .int)
abbrev mX7_isPastPlanning : am_MI := (7, yX7_isPastPlanning, cX7_isPastPlanning, 1, some .boolean)
abbrev mX7_seekWays : am_MI := (7, yX7_seekWays, cX7_seekWays, 2, none)
abbrev mX3_prepare : am_MI := (3, yX3_prepare, cX3_prepare, 7, none)
abbrev mJ7_fill_53178 : am_MI := (12, yJ7_fill_53178, cJ7_fill_53178, 4, none)
abbrev mX6_quartersOnStreets : am_MI := (6, yX6_quartersOnStreets, cX6_quartersOnStreets, 3, some .int)
abbrev mX1_faceLasts : am_MI := (1, yX1_faceLasts, cX1_faceLasts, 1, some .int)
abbrev mX3_seek : am_MI := (3, yX3_seek, cX3_seek, 3, none)
abbrev mX3_walk : am_MI := (3, yX3_walk, cX3_walk, 10, none)
abbrev mX3_note : am_MI := (3, yX3_note, cX3_note, 6, none)
abbrev mX3_closeRound : am_MI := (3, yX3_closeRound, cX3_closeRound, 8, none)
abbrev mX3_seenAt : am_MI := (3, yX3_seenAt, cX3_seenAt, 4, some .int)
abbrev mX7_isInSet : am_MI := (7, yX7_isInSet, cX7_isInSet, 2, some .boolean)
abbrev mX7_way : am_MI := (7, yX7_way, cX7_way, 4, some .int)
abbrev mX7_soonest : am_MI := (7, yX7_soonest, cX7_soonest, 3, some .int)
abbrev mX7_ways : am_MI := (7, yX7_ways, cX7_ways, 2, some .int)
abbrev mX7_round : am_MI := (7, yX7_round, cX7_round, 1, some .int)
abbrev mX7_seekRounds : am_MI := (7, yX7_seekRounds, cX7_seekRounds, 4, none)
abbrev mX7_ith : am_MI := (7, yX7_ith, cX7_ith, 2, some .int)
abbrev mX7_rounds : am_MI := (7, yX7_rounds, cX7_rounds, 1, some .int)
abbrev mX7_start : am_MI := (7, yX7_start, cX7_start, 4, some .int)
abbrev mX7_better : am_MI := (7, yX7_better, cX7_better, 4, some .int)
abbrev mX7_umbrella : am_MI := (7, yX7_umbrella, cX7_umbrella, 5, some .int)
abbrev mX6_takeFrom : am_MI := (6, yX6_takeFrom, cX6_takeFrom, 3, none)
abbrev mX5_takeFrom : am_MI := (5, yX5_takeFrom, cX5_takeFrom, 2, none)
abbrev mX7_shade : am_MI := (7, yX7_shade, cX7_shade, 6, some .int)
abbrev mX7_needed : am_MI := (7, yX7_needed, cX7_needed, 3, some .int)
abbrev mX7_kindFor : am_MI := (7, yX7_kindFor, cX7_kindFor, 6, some .int)
abbrev mX7_reach : am_MI := (7, yX7_reach, cX7_reach, 5, some .int)
abbrev mX7_sky : am_MI := (7, yX7_sky, cX7_sky, 4, some .int)
abbrev mX2_draw : am_MI := (2, yX2_draw, cX2_draw, 1, some .int)
abbrev mX7_stray : am_MI := (7, yX7_stray, cX7_stray, 5, some .int)
abbrev mX2_drawNeighbour : am_MI := (2, yX2_drawNeighbour, cX2_drawNeighbour, 5, some .int)
abbrev mX7_year : am_MI := (7, yX7_year, cX7_year, 1, some .int)
abbrev mX1_remake : am_MI := (1, yX1_remake, cX1_remake, 2, none)
abbrev mX7_seed : am_MI := (7, yX7_seed, cX7_seed, 3, some .int)
abbrev mX7_feed : am_MI := (7, yX7_feed, cX7_feed, 4, some .int)
abbrev mX0_append : am_MI := (0, yX0_append, cX0_append, 2, none)
abbrev mX7_wipe : am_MI := (7, yX7_wipe, cX7_wipe, 2, some .int)
abbrev mX7_text : am_MI := (7, yX7_text, cX7_text, 2, some .int)
abbrev mX0_readAll : am_MI := (0, yX0_readAll, cX0_readAll, 2, some .int)
abbrev mX0_advance : am_MI := (0, yX0_advance, cX0_advance, 1, none)
abbrev mX0_byteAt : am_MI := (0, yX0_byteAt, cX0_byteAt, 2, some .int)
abbrev mX0_isLetter : am_MI := (0, yX0_isLetter, cX0_isLetter, 1, some .boolean)
abbrev mX0_isDigit : am_MI := (0, yX0_isDigit, cX0_isDigit, 1, some .boolean)
abbrev mX0_readItem : am_MI := (0, yX0_readItem, cX0_readItem, 2, some .boolean)
abbrev mX0_kindByWord : am_MI := (0, yX0_kindByWord, cX0_kindByWord, 2, some .int)
abbrev mX0_wordFor : am_MI := (0, yX0_wordFor, cX0_wordFor, 1, some (.object "java/lang/String"))
abbrev mX0_isWord : am_MI := (0, yX0_isWord, cX0_isWord, 3, some .boolean)
abbrev mX0_readStreet : am_MI := (0, yX0_readStreet, cX0_readStreet, 6, some .boolean)
abbrev mX0_isNumber : am_MI := (0, yX0_isNumber, cX0_isNumber, 3, some .boolean)
abbrev mX0_readSpell : am_MI := (0, yX0_readSpell, cX0_readSpell, 2, some .boolean)
abbrev mX0_readWeather : am_MI := (0, yX0_readWeather, cX0_readWeather, 4, some .boolean)
abbrev mX0_readQuarter : am_MI := (0, yX0_readQuarter, cX0_readQuarter, 2, some .boolean)
abbrev mX7_hold : am_MI := (7, yX7_hold, cX7_hold, 3, some .int)
abbrev mX7_as : am_MI := (7, yX7_as, cX7_as, 4, some .int)
abbrev mX5_isUnder : am_MI := (5, yX5_isUnder, cX5_isUnder, 4, some .boolean)
abbrev mX5_above : am_MI := (5, yX5_above, cX5_above, 1, some .int)
abbrev mX7_sheet : am_MI := (7, yX7_sheet, cX7_sheet, 4, some .int)
abbrev mX7_isSheet : am_MI := (7, yX7_isSheet, cX7_isSheet, 1, some .boolean)
abbrev mX4_remake : am_MI := (4, yX4_remake, cX4_remake, 3, none)
abbrev mX7_write : am_MI := (7, yX7_write, cX7_write, 4, some .int)
abbrev mX4_isMissing : am_MI := (4, yX4_isMissing, cX4_isMissing, 1, some .boolean)
abbrev mX4_set : am_MI := (4, yX4_set, cX4_set, 3, none)
abbrev mX7_copy : am_MI := (7, yX7_copy, cX7_copy, 8, some .int)
abbrev mX4_hasRange : am_MI := (4, yX4_hasRange, cX4_hasRange, 3, some .boolean)
abbrev mX7_load : am_MI := (7, yX7_load, cX7_load, 3, some .int)
abbrev mX7_judge : am_MI := (7, yX7_judge, cX7_judge, 9, some .int)
abbrev mX7_image : am_MI := (7, yX7_image, cX7_image, 1, some .int)
abbrev mX2_takeFrom : am_MI := (2, yX2_takeFrom, cX2_takeFrom, 2, none)
abbrev mX1_takeFrom : am_MI := (1, yX1_takeFrom, cX1_takeFrom, 2, none)
abbrev mX7_undo : am_MI := (7, yX7_undo, cX7_undo, 1, some .int)
abbrev mX7_tear : am_MI := (7, yX7_tear, cX7_tear, 2, some .int)
abbrev mX7_count : am_MI := (7, yX7_count, cX7_count, 2, some .int)
abbrev mX6_takesOfAll : am_MI := (6, yX6_takesOfAll, cX6_takesOfAll, 3, some .int)
abbrev mX6_umbrellas : am_MI := (6, yX6_umbrellas, cX6_umbrellas, 3, some .int)
abbrev mX2_spotsHeld : am_MI := (2, yX2_spotsHeld, cX2_spotsHeld, 6, some .int)
abbrev mX7_status : am_MI := (7, yX7_status, cX7_status, 2, some .int)
abbrev mX8_init : am_MI := (8, yX8_init, cX8_init, 2, none)
abbrev mX8_street : am_MI := (8, yX8_street, cX8_street, 5, some .int)
abbrev mX8_isKind : am_MI := (8, yX8_isKind, cX8_isKind, 1, some .boolean)
abbrev mX8_within : am_MI := (8, yX8_within, cX8_within, 3, some .boolean)
abbrev mX8_isCorner : am_MI := (8, yX8_isCorner, cX8_isCorner, 1, some .boolean)
abbrev mX8_finding : am_MI := (8, yX8_finding, cX8_finding, 2, some .int)
abbrev mX8_comes : am_MI := (8, yX8_comes, cX8_comes, 7, some .int)
abbrev mX8_at : am_MI := (8, yX8_at, cX8_at, 2, some .int)
abbrev mX8_of : am_MI := (8, yX8_of, cX8_of, 3, some .int)
abbrev mX8_isStreet : am_MI := (8, yX8_isStreet, cX8_isStreet, 2, some .boolean)
abbrev mX8_takes : am_MI := (8, yX8_takes, cX8_takes, 4, some .int)
abbrev mX8_streetIs : am_MI := (8, yX8_streetIs, cX8_streetIs, 3, some .int)
abbrev mX8_isUnder : am_MI := (8, yX8_isUnder, cX8_isUnder, 3, some .boolean)
abbrev mX8_above : am_MI := (8, yX8_above, cX8_above, 1, some .int)
abbrev mX8_licks : am_MI := (8, yX8_licks, cX8_licks, 3, some .int)
abbrev mX8_change : am_MI := (8, yX8_change, cX8_change, 5, some .int)
abbrev mX8_become : am_MI := (8, yX8_become, cX8_become, 4, some .int)
abbrev mX8_quarter : am_MI := (8, yX8_quarter, cX8_quarter, 3, some .int)
abbrev mX8_spell : am_MI := (8, yX8_spell, cX8_spell, 5, some .int)
abbrev mX8_isSpell : am_MI := (8, yX8_isSpell, cX8_isSpell, 1, some .boolean)
abbrev mX8_loss : am_MI := (8, yX8_loss, cX8_loss, 3, some .int)
abbrev mX8_lossOf : am_MI := (8, yX8_lossOf, cX8_lossOf, 8, some .int)
abbrev mX8_next : am_MI := (8, yX8_next, cX8_next, 2, some .int)
abbrev mX8_nextTo : am_MI := (8, yX8_nextTo, cX8_nextTo, 4, some .int)
abbrev mX8_streetBy : am_MI := (8, yX8_streetBy, cX8_streetBy, 6, some .int)
abbrev mX8_by : am_MI := (8, yX8_by, cX8_by, 4, some .int)
abbrev mX8_grains : am_MI := (8, yX8_grains, cX8_grains, 3, some .int)
abbrev mX8_now : am_MI := (8, yX8_now, cX8_now, 2, some .int)
abbrev mX8_allGrains : am_MI := (8, yX8_allGrains, cX8_allGrains, 1, some .int)
abbrev mX8_made : am_MI := (8, yX8_made, cX8_made, 2, some .int)
abbrev mX8_carry : am_MI := (8, yX8_carry, cX8_carry, 4, some .int)
abbrev mX8_isTooLate : am_MI := (8, yX8_isTooLate, cX8_isTooLate, 2, some .boolean)
abbrev mX8_carried : am_MI := (8, yX8_carried, cX8_carried, 4, none)
abbrev mX8_minuteOn : am_MI := (8, yX8_minuteOn, cX8_minuteOn, 5, none)
abbrev mX8_spellOf : am_MI := (8, yX8_spellOf, cX8_spellOf, 1, some .int)
abbrev mX8_wait : am_MI := (8, yX8_wait, cX8_wait, 2, some .int)
abbrev mX8_day : am_MI := (8, yX8_day, cX8_day, 1, some .int)
abbrev mX8_bits : am_MI := (8, yX8_bits, cX8_bits, 3, some .int)
abbrev mX8_costs : am_MI := (8, yX8_costs, cX8_costs, 3, some .int)
abbrev mX8_costsOf : am_MI := (8, yX8_costsOf, cX8_costsOf, 5, some .int)
abbrev mX8_most : am_MI := (8, yX8_most, cX8_most, 3, some .int)
abbrev mX8_refusesWays : am_MI := (8, yX8_refusesWays, cX8_refusesWays, 2, some .int)
abbrev mX8_isLate : am_MI := (8, yX8_isLate, cX8_isLate, 1, some .boolean)
abbrev mX8_findWays : am_MI := (8, yX8_findWays, cX8_findWays, 2, none)
abbrev mX8_none : am_MI := (8, yX8_none, cX8_none, 1, none)
abbrev mX8_waysOn : am_MI := (8, yX8_waysOn, cX8_waysOn, 7, none)
abbrev mX8_isWhole : am_MI := (8, yX8_isWhole, cX8_isWhole, 5, none)
abbrev mX8_has : am_MI := (8, yX8_has, cX8_has, 2, some .boolean)
abbrev mX8_keepAhead : am_MI := (8, yX8_keepAhead, cX8_keepAhead, 3, none)
abbrev mX8_backTo : am_MI := (8, yX8_backTo, cX8_backTo, 3, none)
abbrev mX8_way : am_MI := (8, yX8_way, cX8_way, 4, some .int)
abbrev mX8_isPlace : am_MI := (8, yX8_isPlace, cX8_isPlace, 1, some .boolean)
abbrev mX8_soonest : am_MI := (8, yX8_soonest, cX8_soonest, 3, some .int)
abbrev mX8_ways : am_MI := (8, yX8_ways, cX8_ways, 2, some .int)
abbrev mX8_round : am_MI := (8, yX8_round, cX8_round, 2, some .int)
abbrev mX8_bestRound : am_MI := (8, yX8_bestRound, cX8_bestRound, 1, some .int)
abbrev mX8_due : am_MI := (8, yX8_due, cX8_due, 3, some .int)
abbrev mX8_roundsOn : am_MI := (8, yX8_roundsOn, cX8_roundsOn, 8, none)
abbrev mX8_ith : am_MI := (8, yX8_ith, cX8_ith, 2, some .int)
abbrev mX8_rounds : am_MI := (8, yX8_rounds, cX8_rounds, 1, some .int)
abbrev mX8_start : am_MI := (8, yX8_start, cX8_start, 3, some .int)
abbrev mX8_nothingTried : am_MI := (8, yX8_nothingTried, cX8_nothingTried, 1, none)
abbrev mX8_tried : am_MI := (8, yX8_tried, cX8_tried, 3, none)
abbrev mX8_bestTried : am_MI := (8, yX8_bestTried, cX8_bestTried, 1, some .int)
abbrev mX8_better : am_MI := (8, yX8_better, cX8_better, 3, some .int)
abbrev mX8_umbrella : am_MI := (8, yX8_umbrella, cX8_umbrella, 1, some .int)
abbrev mX8_bestWith : am_MI := (8, yX8_bestWith, cX8_bestWith, 6, some .int)
abbrev mX8_shade : am_MI := (8, yX8_shade, cX8_shade, 1, some .int)
abbrev mX8_needed : am_MI := (8, yX8_needed, cX8_needed, 3, some .int)
abbrev mX8_kindFor : am_MI := (8, yX8_kindFor, cX8_kindFor, 4, some .int)
abbrev mX8_reach : am_MI := (8, yX8_reach, cX8_reach, 4, some .int)
abbrev mX8_sky : am_MI := (8, yX8_sky, cX8_sky, 4, some .int)
abbrev mX8_drawn : am_MI := (8, yX8_drawn, cX8_drawn, 2, some .int)
abbrev mX8_sum : am_MI := (8, yX8_sum, cX8_sum, 5, some .int)
abbrev mX8_stray : am_MI := (8, yX8_stray, cX8_stray, 8, some .int)
abbrev mX8_year : am_MI := (8, yX8_year, cX8_year, 3, some .int)
abbrev mX8_seed : am_MI := (8, yX8_seed, cX8_seed, 2, some .int)
abbrev mX8_feed : am_MI := (8, yX8_feed, cX8_feed, 4, some .int)
abbrev mX8_wipe : am_MI := (8, yX8_wipe, cX8_wipe, 2, some .int)
abbrev mX8_text : am_MI := (8, yX8_text, cX8_text, 3, some .int)
abbrev mX8_next_ : am_MI := (8, yX8_next_, cX8_next_, 2, none)
abbrev mX8_byteAt : am_MI := (8, yX8_byteAt, cX8_byteAt, 2, some .int)
abbrev mX8_readItem : am_MI := (8, yX8_readItem, cX8_readItem, 5, none)
abbrev mX8_kindTold : am_MI := (8, yX8_kindTold, cX8_kindTold, 3, some .int)
abbrev mX8_isWord : am_MI := (8, yX8_isWord, cX8_isWord, 4, some .boolean)
abbrev mX8_must : am_MI := (8, yX8_must, cX8_must, 2, none)
abbrev mX8_number : am_MI := (8, yX8_number, cX8_number, 4, some .int)
abbrev mX8_isNext : am_MI := (8, yX8_isNext, cX8_isNext, 3, some .boolean)
abbrev mX8_row : am_MI := (8, yX8_row, cX8_row, 7, none)
abbrev mX8_isSo : am_MI := (8, yX8_isSo, cX8_isSo, 4, some .int)
abbrev mX8_hold : am_MI := (8, yX8_hold, cX8_hold, 3, some .int)
abbrev mX8_isSpot : am_MI := (8, yX8_isSpot, cX8_isSpot, 1, some .boolean)
abbrev mX8_as : am_MI := (8, yX8_as, cX8_as, 4, some .int)
abbrev mX8_sheet : am_MI := (8, yX8_sheet, cX8_sheet, 5, some .int)
abbrev mX8_isSheet : am_MI := (8, yX8_isSheet, cX8_isSheet, 1, some .boolean)
abbrev mX8_write : am_MI := (8, yX8_write, cX8_write, 4, some .int)
abbrev mX8_cutTo : am_MI := (8, yX8_cutTo, cX8_cutTo, 2, some .int)
abbrev mX8_copy : am_MI := (8, yX8_copy, cX8_copy, 7, some .int)
abbrev mX8_load : am_MI := (8, yX8_load, cX8_load, 3, some .int)
abbrev mX8_judge : am_MI := (8, yX8_judge, cX8_judge, 6, some .int)
abbrev mX8_copyRow : am_MI := (8, yX8_copyRow, cX8_copyRow, 3, none)
abbrev mX8_putBack : am_MI := (8, yX8_putBack, cX8_putBack, 2, some .int)
abbrev mX8_image : am_MI := (8, yX8_image, cX8_image, 1, some .int)
abbrev mX8_undo : am_MI := (8, yX8_undo, cX8_undo, 1, some .int)
abbrev mX8_tear : am_MI := (8, yX8_tear, cX8_tear, 2, some .int)
abbrev mX8_count : am_MI := (8, yX8_count, cX8_count, 4, some .int)
abbrev mX8_status : am_MI := (8, yX8_status, cX8_status, 2, some .int)
abbrev am_cl : List vw_C := [(RX0, TX0, 8), (RX1, TX1, 6), (RX2, TX2, 4), (RX3, TX3, 17), (RX4, TX4, 3), (RX5, TX5, 5), (RX6, TX6, 6), (RX7, TX7, 8), (RX8, TX8, 31)]
def am_cn : Nat → String := fun k => match k with
  | 0 => RX0
  | 1 => RX1
  | 2 => RX2
  | 3 => RX3
  | 4 => RX4
  | 5 => RX5
  | 6 => RX6
  | 7 => RX7
  | 8 => RX8
  | 9 => RL
  | 10 => RJ6
  | 11 => RJ9
  | _ => RJ7
/-- own class, index; the class of the field, its number; the word -/
def am_F : List (Nat × Nat × Nat × Nat × Nat) := [(0, 9, 0, 0, 1234), (0, 15, 0, 1, 1235), (0, 22, 0, 2, 1237), (0, 26, 0, 3, 1239), (0, 29, 0, 4, 2001), (0, 32, 0, 5, 2002), (0, 35, 0, 6, 2003), (0, 38, 0, 7, 2004), (0, 106, 6, 3, 1088), (0, 114, 6, 4, 1091), (0, 116, 6, 2, 1085), (1, 9, 1, 0, 1112), (1, 15, 1, 1, 1115), (1, 19, 1, 2, 1118), (1, 22, 1, 3, 1122), (1, 25, 1, 4, 1125), (1, 28, 1, 5, 1129), (2, 12, 2, 0, 1144), (2, 21, 2, 1, 1146), (2, 25, 2, 2, 1148), (2, 29, 2, 3, 1150), (2, 47, 1, 2, 1120), (2, 67, 1, 3, 1123), (2, 70, 6, 0, 1077), (2, 79, 1, 1, 1116), (2, 89, 1, 0, 1113), (2, 92, 1, 4, 1127), (2, 95, 6, 2, 1084), (3, 9, 3, 0, 1169), (3, 15, 3, 1, 1170), (3, 18, 3, 2, 1171), (3, 21, 3, 3, 1172), (3, 24, 3, 4, 1173), (3, 28, 3, 5, 1174), (3, 31, 3, 6, 1175), (3, 34, 3, 7, 1176), (3, 37, 3, 8, 1177), (3, 40, 3, 9, 1178), (3, 43, 3, 10, 1179), (3, 46, 3, 11, 1180), (3, 49, 3, 12, 1181), (3, 52, 3, 13, 1183), (3, 55, 3, 14, 1185), (3, 58, 3, 15, 1187), (3, 61, 3, 16, 1189), (3, 70, 6, 1, 1079), (3, 75, 6, 0, 1075), (3, 88, 5, 1, 1049), (3, 91, 5, 2, 1053), (3, 94, 6, 2, 1082), (3, 104, 1, 2, 1119), (3, 113, 1, 4, 1126), (4, 9, 4, 0, 2029), (4, 15, 4, 1, 2031), (4, 18, 4, 2, 2033), (5, 9, 5, 0, 1045), (5, 15, 5, 1, 1048), (5, 18, 5, 2, 1052), (5, 21, 5, 3, 1056), (5, 24, 5, 4, 1059), (6, 11, 6, 0, 1074), (6, 17, 6, 1, 1078), (6, 21, 6, 2, 1081), (6, 25, 6, 3, 1086), (6, 28, 6, 4, 1089), (6, 31, 6, 5, 1092), (6, 53, 5, 0, 1047), (6, 56, 5, 1, 1051), (6, 59, 5, 2, 1055), (6, 62, 5, 3, 1058), (6, 65, 5, 4, 1061), (7, 10, 7, 0, 2042), (7, 16, 7, 1, 2043), (7, 19, 7, 2, 2044), (7, 26, 7, 3, 2045), (7, 33, 7, 4, 2046), (7, 40, 7, 5, 2047), (7, 46, 7, 6, 2048), (7, 50, 7, 7, 2049), (7, 70, 2, 0, 1145), (7, 84, 6, 0, 1076), (7, 88, 5, 0, 1046), (7, 94, 5, 1, 1050), (7, 97, 5, 2, 1054), (7, 109, 5, 3, 1057), (7, 112, 5, 4, 1060), (7, 122, 6, 2, 1083), (7, 129, 6, 3, 1087), (7, 132, 6, 4, 1090), (7, 135, 2, 1, 1147), (7, 139, 1, 1, 1117), (7, 154, 1, 0, 1114), (7, 160, 1, 2, 1121), (7, 163, 1, 3, 1124), (7, 166, 1, 4, 1128), (7, 169, 1, 5, 1130), (7, 193, 3, 13, 1184), (7, 196, 3, 16, 1190), (7, 199, 3, 15, 1188), (7, 202, 3, 14, 1186), (7, 209, 3, 12, 1182), (7, 231, 6, 1, 1080), (7, 251, 2, 3, 1151), (7, 254, 0, 1, 1236), (7, 258, 0, 2, 1238), (7, 259, 0, 3, 2000), (7, 263, 2, 2, 1149), (7, 274, 4, 1, 2032), (7, 281, 4, 0, 2030), (7, 287, 4, 2, 2034), (8, 9, 8, 0, 4179), (8, 13, 8, 1, 4180), (8, 16, 8, 2, 4181), (8, 19, 8, 4, 4183), (8, 22, 8, 5, 4184), (8, 26, 8, 6, 4185), (8, 29, 8, 7, 4186), (8, 32, 8, 8, 4187), (8, 35, 8, 15, 4194), (8, 54, 8, 22, 4201), (8, 58, 8, 23, 4202), (8, 61, 8, 27, 4206), (8, 64, 8, 28, 4207), (8, 67, 8, 29, 4208), (8, 70, 8, 30, 4209), (8, 170, 8, 11, 4190), (8, 173, 8, 12, 4191), (8, 176, 8, 10, 4189), (8, 179, 8, 9, 4188), (8, 223, 8, 14, 4193), (8, 226, 8, 13, 4192), (8, 252, 8, 16, 4195), (8, 255, 8, 18, 4197), (8, 258, 8, 17, 4196), (8, 264, 8, 20, 4199), (8, 267, 8, 19, 4198), (8, 277, 8, 21, 4200), (8, 288, 8, 24, 4203), (8, 298, 8, 25, 4204), (8, 301, 8, 26, 4205), (8, 351, 8, 3, 4182)]
/-- own class, index; the method, how many parameters, the mode (0 virtual, 1 static, 2 init; 4, 5: of a nest mate), the words -/
abbrev am_ME : Type := Nat × Nat × am_MI × Nat × Nat × List Nat
def am_M_0_0 : List am_ME := [(0, 21, mX6_init, 0, 2, [1233, 1035, 1003, 1036]), (0, 41, mX0_advance, 0, 0, [3189, 3191, 1007, 3192, 10]), (0, 44, mX0_readItem, 0, 0, [3204, 3206, 1007, 3207, 12]), (0, 48, mX0_byteAt, 1, 0, [3193, 3195, 1007, 3196, 11]), (0, 52, mX0_isLetter, 1, 1, [3197, 3198, 1007, 3199]), (0, 56, mX0_isDigit, 1, 1, [3200, 3201, 1007, 3202]), (0, 59, mJ9_min_7cf53, 2, 1, [3203, 2104, 1010, 2105]), (0, 65, mX0_kindByWord, 0, 0, [3208, 3210, 1007, 3211, 13]), (0, 69, mX6_isFull, 0, 0, [4034, 2086, 1003, 2088, 2087]), (0, 72, mX0_readStreet, 1, 0, [4035, 4037, 1007, 4038, 15]), (0, 77, mX0_isWord, 1, 0, [3222, 3224, 1007, 3225, 14]), (0, 81, mX0_readSpell, 0, 0, [4048, 4050, 1007, 4051, 17]), (0, 86, mX0_readQuarter, 0, 0, [4059, 4061, 1007, 4062, 19]), (0, 92, mX0_isNumber, 2, 0, [4039, 4041, 1007, 4042, 16]), (0, 100, mX6_add, 5, 0, [4046, 2090, 1003, 2092, 2091]), (0, 108, mX0_readWeather, 3, 0, [4053, 4055, 1007, 4056, 18]), (0, 119, mX0_wordFor, 1, 1, [3212, 3213, 1007, 3214]), (0, 146, mX7_isIn, 3, 4, [4043, 2075, 1001, 2076])]
def am_M_0 : List am_ME := am_M_0_0
def am_M_1_0 : List am_ME := [(1, 37, mX7_sumOf, 1, 4, [2179, 2180, 1001, 2181]), (1, 41, mJ9_min_7cf53, 2, 1, [2217, 2104, 1010, 2105]), (1, 47, mX1_total, 0, 0, [3164, 2176, 1005, 2178, 2177])]
def am_M_1 : List am_ME := am_M_1_0
def am_M_2_0 : List am_ME := [(2, 11, mX6_init, 0, 2, [1034, 1035, 1003, 1036]), (2, 20, mX1_init, 0, 2, [1108, 1109, 1005, 1110]), (2, 33, mX6_takeFrom, 1, 0, [4129, 3109, 1003, 3111, 3110]), (2, 37, mX1_takeFrom, 1, 0, [4130, 4131, 1005, 4133, 4132]), (2, 50, mX6_neighbours, 1, 0, [3152, 2152, 1003, 2154, 2153]), (2, 54, mJ6_bitCount_0f7a4, 1, 1, [3153, 2227, 1011, 2228]), (2, 59, mX2_draw, 0, 0, [3154, 3139, 1002, 3141, 3140]), (2, 63, mX7_isInSet, 2, 4, [3155, 3066, 1001, 3067]), (2, 74, mX5_takes, 0, 0, [2194, 2110, 1004, 2112, 2111]), (2, 82, mX6_lossAlong, 3, 0, [2199, 2200, 1003, 2202, 2201]), (2, 86, mX1_melt, 1, 0, [2213, 2214, 1005, 2216, 2215])]
def am_M_2 : List am_ME := am_M_2_0
def am_M_3_0 : List am_ME := [(3, 64, mJ7_fill_53178, 2, 1, [3025, 3026, 1012, 3027]), (3, 79, mX5_takes, 0, 0, [3028, 2110, 1004, 2112, 2111]), (3, 84, mX6_tellLosses, 4, 0, [3029, 2204, 1003, 2206, 2205]), (3, 101, mX6_quartersOnStreets, 0, 0, [3033, 3034, 1003, 3036, 3035]), (3, 109, mX1_total, 0, 0, [3037, 2176, 1005, 2178, 2177]), (3, 111, mX1_faceLasts, 0, 0, [3038, 3039, 1005, 3041, 3040]), (3, 116, mX3_walk, 6, 0, [3046, 3048, 1006, 3049, 5]), (3, 120, mX3_note, 3, 0, [3050, 3052, 1006, 3053, 6]), (3, 124, mX3_closeRound, 5, 0, [3056, 3058, 1006, 3059, 7]), (3, 128, mX7_isInSet, 2, 4, [3065, 3066, 1001, 3067]), (3, 132, mX6_sumAlong, 4, 1, [3060, 2210, 1003, 2211]), (3, 136, mX3_seenAt, 3, 0, [3061, 3063, 1006, 3064, 8]), (3, 140, mJ9_max_7cf53, 2, 1, [3054, 2107, 1010, 2108]), (3, 146, mJ9_min_7cf53, 2, 1, [3055, 2104, 1010, 2105])]
def am_M_3 : List am_ME := am_M_3_0
def am_M_4_0 : List am_ME := [(4, 22, mJ7_fill_53178, 2, 1, [4091, 3026, 1012, 3027])]
def am_M_4 : List am_ME := am_M_4_0
def am_M_5_0 : List am_ME := [(5, 27, mX5_meltsBySun, 2, 1, [2139, 2140, 1004, 2141]), (5, 31, mX5_wets, 2, 1, [2143, 2144, 1004, 2145]), (5, 34, mX5_licks, 1, 1, [2146, 2114, 1004, 2115]), (5, 38, mJ9_max_7cf53, 2, 1, [2142, 2107, 1010, 2108]), (5, 43, mX5_above, 1, 1, [4077, 4078, 1004, 4079])]
def am_M_5 : List am_ME := am_M_5_0
def am_M_6_0 : List am_ME := [(6, 34, mX5_init, 0, 5, [1041, 1042, 1004, 1043]), (6, 35, mX5_takeFrom, 1, 0, [3112, 3113, 1004, 3115, 3114]), (6, 45, mX7_isIn, 3, 4, [2102, 2075, 1001, 2076]), (6, 49, mX6_isFull, 0, 0, [2093, 2086, 1003, 2088, 2087]), (6, 68, mX5_across, 1, 0, [2155, 2156, 1004, 2158, 2157]), (6, 72, mX5_lossBy, 3, 0, [2207, 2136, 1004, 2138, 2137]), (6, 76, mX6_tellLosses, 4, 0, [2203, 2204, 1003, 2206, 2205]), (6, 80, mX5_takes, 0, 0, [2208, 2110, 1004, 2112, 2111]), (6, 84, mX6_sumAlong, 4, 1, [2209, 2210, 1003, 2211]), (6, 88, mJ9_min_7cf53, 2, 1, [2212, 2104, 1010, 2105])]
def am_M_6 : List am_ME := am_M_6_0
def am_M_7_0 : List am_ME := [(7, 9, mX2_init, 0, 2, [1028, 1029, 1002, 1030]), (7, 25, mX6_init, 0, 2, [1162, 1035, 1003, 1036]), (7, 32, mX3_init, 0, 5, [1165, 1166, 1006, 1167]), (7, 39, mX0_init, 0, 5, [1228, 1229, 1007, 1230]), (7, 54, mX4_init, 0, 5, [2025, 2026, 1008, 2027]), (7, 55, mX7_isKind, 1, 1, [2071, 2072, 1001, 2073]), (7, 59, mX7_isCorner, 1, 1, [2077, 2078, 1001, 2079]), (7, 62, mX7_isIn, 3, 1, [2074, 2075, 1001, 2076]), (7, 66, mX7_finding, 1, 0, [2080, 2082, 1001, 2083, 0]), (7, 73, mX6_isFull, 0, 0, [2085, 2086, 1003, 2088, 2087]), (7, 77, mX6_add, 5, 0, [2089, 2090, 1003, 2092, 2091]), (7, 81, mX6_has, 1, 0, [2098, 2099, 1003, 2101, 2100]), (7, 100, mJ9_min_7cf53, 2, 1, [2103, 2104, 1010, 2105]), (7, 106, mJ9_max_7cf53, 2, 1, [2106, 2107, 1010, 2108]), (7, 115, mX5_takes, 0, 0, [2109, 2110, 1004, 2112, 2111]), (7, 119, mX5_licks, 1, 1, [2113, 2114, 1004, 2115]), (7, 125, mX7_put, 3, 1, [2124, 2125, 1001, 2126]), (7, 144, mX5_lossBy, 3, 0, [2135, 2136, 1004, 2138, 2137]), (7, 148, mX6_neighbours, 1, 0, [2151, 2152, 1003, 2154, 2153]), (7, 151, mX6_between, 2, 0, [2163, 2164, 1003, 2166, 2165]), (7, 157, mX1_total, 0, 0, [2175, 2176, 1005, 2178, 2177]), (7, 172, mX2_isTooLate, 1, 0, [2190, 2191, 1002, 2193, 2192]), (7, 175, mX2_carryAlong, 2, 0, [2195, 2196, 1002, 2198, 2197]), (7, 178, mJ6_bitCount_0f7a4, 1, 1, [2226, 2227, 1011, 2228]), (7, 183, mX1_beginDay, 0, 0, [2232, 2233, 1005, 2235, 2234]), (7, 186, mX7_costsIn, 3, 0, [3000, 3002, 1001, 3003, 1]), (7, 190, mX7_findWays, 1, 0, [3009, 3011, 1001, 3012, 2]), (7, 205, mX7_seekWays, 1, 0, [3017, 3019, 1001, 3020, 4]), (7, 212, mX7_isPastPlanning, 0, 0, [3013, 3015, 1001, 3016, 3]), (7, 215, mX7_seekRounds, 3, 0, [3084, 3086, 1001, 3087, 9])]
def am_M_7_1 : List am_ME := [(7, 219, mX3_prepare, 4, 0, [3021, 3022, 1006, 3024, 3023]), (7, 223, mX3_seek, 2, 0, [3042, 3043, 1006, 3045, 3044]), (7, 227, mX6_takeFrom, 1, 0, [3108, 3109, 1003, 3111, 3110]), (7, 234, mX7_isInSet, 2, 1, [3133, 3066, 1001, 3067]), (7, 238, mX2_draw, 0, 0, [3138, 3139, 1002, 3141, 3140]), (7, 241, mX7_sumOf, 1, 1, [3143, 2180, 1001, 2181]), (7, 245, mX2_drawNeighbour, 0, 0, [3148, 3149, 1002, 3151, 3150]), (7, 248, mX1_remake, 0, 0, [3160, 3161, 1005, 3163, 3162]), (7, 255, mX0_append, 1, 0, [3173, 3174, 1007, 3176, 3175]), (7, 260, mX0_readAll, 0, 0, [3185, 3186, 1007, 3188, 3187]), (7, 266, mX5_isUnder, 2, 1, [4074, 4075, 1004, 4076]), (7, 269, mX7_isSheet, 1, 1, [4084, 4085, 1001, 4086]), (7, 272, mX4_remake, 2, 0, [4087, 4088, 1008, 4090, 4089]), (7, 275, mX4_isMissing, 0, 0, [4096, 4097, 1008, 4099, 4098]), (7, 278, mX4_set, 2, 0, [4100, 4101, 1008, 4103, 4102]), (7, 284, mX4_hasRange, 2, 0, [4108, 4109, 1008, 4111, 4110]), (7, 296, mX6_lossAlong, 3, 0, [3004, 2200, 1003, 2202, 2201]), (7, 299, mX2_takeFrom, 1, 0, [4125, 4126, 1002, 4128, 4127]), (7, 302, mX6_takesOfAll, 0, 0, [4148, 4149, 1003, 4151, 4150]), (7, 305, mX6_umbrellas, 0, 0, [4152, 4153, 1003, 4155, 4154]), (7, 308, mX2_spotsHeld, 0, 0, [4156, 4157, 1002, 4159, 4158])]
def am_M_7 : List am_ME := am_M_7_0 ++ am_M_7_1
def am_M_8_0 : List am_ME := [(8, 74, mX8_copyRow, 2, 1, [6196, 6197, 1009, 6198]), (8, 78, mX8_within, 3, 1, [5040, 5041, 1009, 5042]), (8, 82, mX8_at, 2, 1, [5056, 5057, 1009, 5058]), (8, 86, mJ9_min_7cf53, 2, 1, [5059, 2104, 1010, 2105]), (8, 91, mJ9_max_7cf53, 2, 1, [5060, 2107, 1010, 2108]), (8, 94, mX8_isKind, 1, 1, [5037, 5038, 1009, 5039]), (8, 98, mX8_isCorner, 1, 1, [5043, 5044, 1009, 5045]), (8, 101, mX8_finding, 1, 0, [5047, 5049, 1009, 5050, 20]), (8, 106, mX8_comes, 5, 0, [5052, 5054, 1009, 5055, 21]), (8, 110, mX8_above, 1, 1, [5080, 5081, 1009, 5082]), (8, 113, mX8_streetIs, 2, 0, [5073, 5075, 1009, 5076, 24]), (8, 116, mX8_isUnder, 2, 1, [5077, 5078, 1009, 5079]), (8, 120, mX8_licks, 1, 0, [5083, 5085, 1009, 5086, 25]), (8, 123, mX8_isStreet, 1, 0, [5065, 5067, 1009, 5068, 22]), (8, 126, mX8_takes, 1, 0, [5069, 5071, 1009, 5072, 23]), (8, 129, mX8_become, 2, 0, [5091, 5093, 1009, 5094, 26]), (8, 132, mX8_isSpell, 1, 1, [5103, 5104, 1009, 5105]), (8, 135, mX8_lossOf, 2, 0, [5110, 5112, 1009, 5113, 27]), (8, 138, mX8_streetBy, 2, 0, [5122, 5124, 1009, 5125, 29]), (8, 141, mX8_nextTo, 1, 0, [5118, 5120, 1009, 5121, 28]), (8, 145, mX8_allGrains, 0, 0, [5139, 5141, 1009, 5142, 30]), (8, 149, mX8_spellOf, 1, 1, [5164, 5165, 1009, 5166]), (8, 152, mX8_minuteOn, 1, 0, [5160, 5162, 1009, 5163, 33]), (8, 156, mX8_isTooLate, 1, 0, [5151, 5153, 1009, 5154, 31]), (8, 160, mX8_carried, 2, 0, [5156, 5158, 1009, 5159, 32]), (8, 164, mX8_bits, 1, 1, [5175, 5176, 1009, 5177]), (8, 167, mX8_costsOf, 2, 0, [5182, 5184, 1009, 5185, 34]), (8, 182, mX8_isWhole, 2, 0, [5210, 5212, 1009, 5213, 40]), (8, 185, mX8_has, 2, 1, [5214, 5215, 1009, 5216]), (8, 188, mX8_keepAhead, 1, 0, [5217, 5219, 1009, 5220, 41])]
def am_M_8_1 : List am_ME := [(8, 191, mX8_waysOn, 4, 0, [5206, 5208, 1009, 5209, 39]), (8, 195, mX8_backTo, 1, 0, [5221, 5223, 1009, 5224, 42]), (8, 198, mX8_none, 0, 0, [5202, 5204, 1009, 5205, 38]), (8, 201, mX8_isLate, 0, 0, [5194, 5196, 1009, 5197, 36]), (8, 205, mX8_findWays, 1, 0, [5198, 5200, 1009, 5201, 37]), (8, 208, mX8_refusesWays, 1, 0, [5190, 5192, 1009, 5193, 35]), (8, 211, mX8_isPlace, 1, 1, [5229, 5230, 1009, 5231]), (8, 214, mX8_roundsOn, 4, 0, [6012, 6014, 1009, 6015, 45]), (8, 217, mX8_due, 0, 0, [6008, 6010, 1009, 6011, 44]), (8, 220, mX8_bestRound, 0, 0, [6004, 6006, 1009, 6007, 43]), (8, 229, mX8_nothingTried, 0, 0, [6028, 6030, 1009, 6031, 46]), (8, 232, mX8_tried, 2, 0, [6032, 6034, 1009, 6035, 47]), (8, 235, mX8_bestTried, 0, 0, [6036, 6038, 1009, 6039, 48]), (8, 238, mX8_bestWith, 3, 0, [6048, 6050, 1009, 6051, 49]), (8, 243, mX8_drawn, 1, 0, [6072, 6074, 1009, 6075, 50]), (8, 246, mX8_sum, 2, 0, [6077, 6079, 1009, 6080, 51]), (8, 249, mX8_day, 0, 0, [6089, 5172, 1009, 5174, 5173]), (8, 261, mX8_byteAt, 1, 0, [6110, 6112, 1009, 6113, 53]), (8, 281, mX8_next_, 0, 0, [6106, 6108, 1009, 6109, 52]), (8, 284, mX8_must, 1, 0, [6128, 6130, 1009, 6131, 57]), (8, 291, mX8_isWord, 1, 0, [6122, 6124, 1009, 6125, 56]), (8, 295, mX8_kindTold, 0, 0, [6118, 6120, 1009, 6121, 55]), (8, 304, mX8_number, 2, 0, [6132, 6134, 1009, 6135, 58]), (8, 309, mX8_isNext, 1, 0, [6137, 6139, 1009, 6140, 59]), (8, 314, mX8_row, 5, 0, [6142, 6144, 1009, 6145, 60]), (8, 330, mX8_readItem, 0, 0, [6114, 6116, 1009, 6117, 54]), (8, 333, mX8_isSo, 1, 0, [6152, 6154, 1009, 6155, 61]), (8, 336, mX8_isSpot, 1, 1, [6160, 6161, 1009, 6162]), (8, 341, mX8_isSheet, 1, 1, [6173, 6174, 1009, 6175]), (8, 345, mX8_cutTo, 2, 1, [6181, 6182, 1009, 6183])]
def am_M_8_2 : List am_ME := [(8, 348, mX8_putBack, 1, 0, [6199, 6201, 1009, 6202, 62])]
def am_M_8 : List am_ME := am_M_8_0 ++ am_M_8_1 ++ am_M_8_2
def am_M_9_0 : List am_ME := [(9, 9, mX7_init, 0, 2, [1020, 1021, 1001, 1022]), (9, 12, mX8_init, 0, 2, [4166, 4167, 1009, 4168]), (9, 13, mX7_street, 4, 0, [2067, 2068, 1001, 2070, 2069]), (9, 17, mX8_street, 4, 0, [5033, 5034, 1009, 5036, 5035]), (9, 18, mX7_of, 2, 0, [2094, 2095, 1001, 2097, 2096]), (9, 22, mX8_of, 2, 0, [5061, 5062, 1009, 5064, 5063]), (9, 23, mX7_change, 3, 0, [2116, 2117, 1001, 2119, 2118]), (9, 27, mX8_change, 3, 0, [5087, 5088, 1009, 5090, 5089]), (9, 28, mX7_quarter, 2, 0, [2120, 2121, 1001, 2123, 2122]), (9, 31, mX8_quarter, 2, 0, [5095, 5096, 1009, 5098, 5097]), (9, 32, mX7_spell, 3, 0, [2127, 2128, 1001, 2130, 2129]), (9, 35, mX8_spell, 3, 0, [5099, 5100, 1009, 5102, 5101]), (9, 36, mX7_loss, 2, 0, [2131, 2132, 1001, 2134, 2133]), (9, 39, mX8_loss, 2, 0, [5106, 5107, 1009, 5109, 5108]), (9, 40, mX7_next, 1, 0, [2147, 2148, 1001, 2150, 2149]), (9, 44, mX8_next, 1, 0, [5114, 5115, 1009, 5117, 5116]), (9, 45, mX7_by, 2, 0, [2159, 2160, 1001, 2162, 2161]), (9, 48, mX8_by, 2, 0, [5126, 5127, 1009, 5129, 5128]), (9, 49, mX7_grains, 2, 0, [2167, 2168, 1001, 2170, 2169]), (9, 52, mX8_grains, 2, 0, [5131, 5132, 1009, 5134, 5133]), (9, 53, mX7_now, 1, 0, [2171, 2172, 1001, 2174, 2173]), (9, 56, mX8_now, 1, 0, [5135, 5136, 1009, 5138, 5137]), (9, 57, mX7_made, 1, 0, [2182, 2183, 1001, 2185, 2184]), (9, 60, mX8_made, 1, 0, [5143, 5144, 1009, 5146, 5145]), (9, 61, mX7_carry, 1, 0, [2186, 2187, 1001, 2189, 2188]), (9, 64, mX8_carry, 1, 0, [5147, 5148, 1009, 5150, 5149]), (9, 65, mX7_wait, 1, 0, [2218, 2219, 1001, 2221, 2220]), (9, 68, mX8_wait, 1, 0, [5167, 5168, 1009, 5170, 5169]), (9, 69, mX7_day, 0, 0, [2222, 2223, 1001, 2225, 2224]), (9, 73, mX8_day, 0, 0, [5171, 5172, 1009, 5174, 5173])]
def am_M_9_1 : List am_ME := [(9, 74, mX7_costs, 2, 0, [2236, 2237, 1001, 2239, 2238]), (9, 77, mX8_costs, 2, 0, [5178, 5179, 1009, 5181, 5180]), (9, 78, mX7_most, 1, 0, [3005, 3006, 1001, 3008, 3007]), (9, 81, mX8_most, 1, 0, [5186, 5187, 1009, 5189, 5188]), (9, 82, mX7_way, 2, 0, [3068, 3069, 1001, 3071, 3070]), (9, 85, mX8_way, 2, 0, [5225, 5226, 1009, 5228, 5227]), (9, 86, mX7_soonest, 1, 0, [3072, 3073, 1001, 3075, 3074]), (9, 89, mX8_soonest, 1, 0, [5232, 5233, 1009, 5235, 5234]), (9, 90, mX7_ways, 1, 0, [3076, 3077, 1001, 3079, 3078]), (9, 93, mX8_ways, 1, 0, [5236, 5237, 1009, 5239, 5238]), (9, 94, mX7_round, 0, 0, [3080, 3081, 1001, 3083, 3082]), (9, 97, mX8_round, 0, 0, [6000, 6001, 1009, 6003, 6002]), (9, 98, mX7_ith, 1, 0, [3088, 3089, 1001, 3091, 3090]), (9, 101, mX8_ith, 1, 0, [6016, 6017, 1009, 6019, 6018]), (9, 102, mX7_rounds, 0, 0, [3092, 3093, 1001, 3095, 3094]), (9, 105, mX8_rounds, 0, 0, [6020, 6021, 1009, 6023, 6022]), (9, 106, mX7_start, 0, 0, [3096, 3097, 1001, 3099, 3098]), (9, 109, mX8_start, 0, 0, [6024, 6025, 1009, 6027, 6026]), (9, 110, mX7_better, 0, 0, [3100, 3101, 1001, 3103, 3102]), (9, 113, mX8_better, 0, 0, [6040, 6041, 1009, 6043, 6042]), (9, 114, mX7_umbrella, 0, 0, [3104, 3105, 1001, 3107, 3106]), (9, 117, mX8_umbrella, 0, 0, [6044, 6045, 1009, 6047, 6046]), (9, 118, mX7_shade, 0, 0, [3117, 3118, 1001, 3120, 3119]), (9, 121, mX8_shade, 0, 0, [6052, 6053, 1009, 6055, 6054]), (9, 122, mX7_needed, 0, 0, [3121, 3122, 1001, 3124, 3123]), (9, 125, mX8_needed, 0, 0, [6056, 6057, 1009, 6059, 6058]), (9, 126, mX7_kindFor, 1, 0, [3125, 3126, 1001, 3128, 3127]), (9, 129, mX8_kindFor, 1, 0, [6060, 6061, 1009, 6063, 6062]), (9, 130, mX7_reach, 0, 0, [3129, 3130, 1001, 3132, 3131]), (9, 133, mX8_reach, 0, 0, [6064, 6065, 1009, 6067, 6066])]
def am_M_9_2 : List am_ME := [(9, 134, mX7_sky, 1, 0, [3134, 3135, 1001, 3137, 3136]), (9, 137, mX8_sky, 1, 0, [6068, 6069, 1009, 6071, 6070]), (9, 138, mX7_stray, 1, 0, [3144, 3145, 1001, 3147, 3146]), (9, 141, mX8_stray, 1, 0, [6081, 6082, 1009, 6084, 6083]), (9, 142, mX7_year, 0, 0, [3156, 3157, 1001, 3159, 3158]), (9, 145, mX8_year, 0, 0, [6085, 6086, 1009, 6088, 6087]), (9, 146, mX7_seed, 1, 0, [3165, 3166, 1001, 3168, 3167]), (9, 149, mX8_seed, 1, 0, [6090, 6091, 1009, 6093, 6092]), (9, 150, mX7_feed, 2, 0, [3169, 3170, 1001, 3172, 3171]), (9, 153, mX8_feed, 2, 0, [6094, 6095, 1009, 6097, 6096]), (9, 154, mX7_wipe, 0, 0, [3177, 3178, 1001, 3180, 3179]), (9, 157, mX8_wipe, 0, 0, [6098, 6099, 1009, 6101, 6100]), (9, 158, mX7_text, 0, 0, [3181, 3182, 1001, 3184, 3183]), (9, 161, mX8_text, 0, 0, [6102, 6103, 1009, 6105, 6104]), (9, 162, mX7_hold, 2, 0, [4066, 4067, 1001, 4069, 4068]), (9, 165, mX8_hold, 2, 0, [6156, 6157, 1009, 6159, 6158]), (9, 166, mX7_as, 2, 0, [4070, 4071, 1001, 4073, 4072]), (9, 169, mX8_as, 2, 0, [6163, 6164, 1009, 6166, 6165]), (9, 170, mX7_sheet, 3, 0, [4080, 4081, 1001, 4083, 4082]), (9, 173, mX8_sheet, 3, 0, [6169, 6170, 1009, 6172, 6171]), (9, 174, mX7_write, 3, 0, [4092, 4093, 1001, 4095, 4094]), (9, 177, mX8_write, 3, 0, [6177, 6178, 1009, 6180, 6179]), (9, 178, mX7_copy, 5, 0, [4104, 4105, 1001, 4107, 4106]), (9, 182, mX8_copy, 5, 0, [6184, 6185, 1009, 6187, 6186]), (9, 183, mX7_load, 1, 0, [4113, 4114, 1001, 4116, 4115]), (9, 186, mX8_load, 1, 0, [6188, 6189, 1009, 6191, 6190]), (9, 187, mX7_judge, 1, 0, [4117, 4118, 1001, 4120, 4119]), (9, 190, mX8_judge, 1, 0, [6192, 6193, 1009, 6195, 6194]), (9, 191, mX7_image, 0, 0, [4121, 4122, 1001, 4124, 4123]), (9, 194, mX8_image, 0, 0, [6203, 6204, 1009, 6206, 6205])]
def am_M_9_3 : List am_ME := [(9, 195, mX7_undo, 0, 0, [4136, 4137, 1001, 4139, 4138]), (9, 198, mX8_undo, 0, 0, [6207, 6208, 1009, 6210, 6209]), (9, 199, mX7_tear, 0, 0, [4140, 4141, 1001, 4143, 4142]), (9, 202, mX8_tear, 0, 0, [6211, 6212, 1009, 6214, 6213]), (9, 203, mX7_count, 1, 0, [4144, 4145, 1001, 4147, 4146]), (9, 206, mX8_count, 1, 0, [6215, 6216, 1009, 6218, 6217]), (9, 207, mX7_status, 1, 0, [4160, 4161, 1001, 4163, 4162]), (9, 210, mX8_status, 1, 0, [6219, 6220, 1009, 6222, 6221])]
def am_M_9 : List am_ME := am_M_9_0 ++ am_M_9_1 ++ am_M_9_2 ++ am_M_9_3
def am_M : Nat → List am_ME := fun k => match k with
  | 0 => am_M_0
  | 1 => am_M_1
  | 2 => am_M_2
  | 3 => am_M_3
  | 4 => am_M_4
  | 5 => am_M_5
  | 6 => am_M_6
  | 7 => am_M_7
  | 8 => am_M_8
  | 9 => am_M_9
  | _ => []
/-- own class, index; which (0 Object.<init>, 1 length, 2 charAt, 3 arraycopy), the word -/
def am_X : List (Nat × Nat × Nat × Nat) := [(0, 3, 0, 1231), (0, 137, 1, 3226), (0, 142, 2, 3236), (1, 3, 0, 1111), (1, 31, 3, 4134), (2, 3, 0, 1031), (2, 40, 3, 4135), (3, 3, 0, 1168), (3, 95, 3, 3030), (4, 3, 0, 2028), (5, 3, 0, 1044), (6, 3, 0, 1037), (6, 39, 3, 3116), (7, 1, 0, 1023), (7, 290, 3, 4112), (8, 1, 0, 4169), (8, 270, 1, 6126), (8, 273, 2, 6127)]
/-- own class, index; the class (99: String), the word -/
def am_L : List (Nat × Nat × Nat × Nat) := [(0, 19, 6, 1232), (2, 9, 6, 1032), (2, 18, 1, 1106), (6, 9, 5, 1038), (7, 7, 2, 1026), (7, 23, 6, 1161), (7, 30, 3, 1163), (7, 37, 0, 1226), (7, 44, 4, 2022), (8, 38, 99, 4170), (9, 7, 7, 1018), (9, 10, 8, 4164)]
/-- own class, index; the text, the word -/
def am_S : List (Nat × Nat × Nat × Nat) := [(0, 75, 9, 4047), (0, 84, 12, 4058), (0, 89, 13, 4063), (0, 90, 14, 4064), (0, 96, 7, 4044), (0, 98, 8, 4045), (0, 104, 10, 4052), (0, 112, 11, 4057), (0, 123, 0, 3215), (0, 125, 1, 3216), (0, 127, 2, 3217), (0, 129, 3, 3218), (0, 131, 4, 3219), (0, 133, 5, 3220), (0, 135, 6, 3221), (8, 40, 6, 4172), (8, 42, 0, 4173), (8, 44, 1, 4174), (8, 46, 2, 4175), (8, 48, 3, 4176), (8, 50, 4, 4177), (8, 52, 5, 4178), (8, 307, 7, 6136), (8, 312, 8, 6141), (8, 318, 9, 6146), (8, 320, 10, 6147), (8, 322, 11, 6148), (8, 324, 12, 6149), (8, 326, 13, 6150), (8, 328, 14, 6151)]
def am_tx : List String := ["shaded", "windy", "chapel", "steep", "crowded", "ants", "street", "long", "umbrella", "spell", "sun", "rain", "quarter", "salt", "sugar"]
def am_by : List (List Nat) := [[115, 104, 97, 100, 101, 100], [119, 105, 110, 100, 121], [99, 104, 97, 112, 101, 108], [115, 116, 101, 101, 112], [99, 114, 111, 119, 100, 101, 100], [97, 110, 116, 115], [115, 116, 114, 101, 101, 116], [108, 111, 110, 103], [117, 109, 98, 114, 101, 108, 108, 97], [115, 112, 101, 108, 108], [115, 117, 110], [114, 97, 105, 110], [113, 117, 97, 114, 116, 101, 114], [115, 97, 108, 116], [115, 117, 103, 97, 114]]
/-- own class, index; the number, the word -/
def am_N : List (Nat × Nat × Int × Nat) := [(2, 46, 1103515245, 3142), (7, 311, -1000001, 2084), (8, 73, -1000001, 5046), (8, 105, -1000002, 5051), (8, 144, -1000004, 5130), (8, 159, -1000005, 5155), (8, 242, 1103515245, 6076), (8, 339, -1000006, 6167), (8, 340, -1000003, 6168), (8, 344, -1000007, 6176), (10, 265, 1431655765, 2229), (10, 266, 858993459, 2230), (10, 267, 252645135, 2231)]
def am_kl : List (Nat × Nat) := [(11, 8), (6, 4), (10, 6), (1, 14), (0, 8), (0, 12), (0, 12), (0, 12), (9, 5), (9, 5), (9, 5), (9, 5), (9, 5), (9, 5), (9, 5), (9, 5), (9, 5), (9, 5), (9, 5), (9, 5), (9, 5), (9, 5), (5, 6), (0, 4), (0, 10), (6, 4), (10, 6), (1, 14), (0, 8), (0, 12), (0, 12), (0, 12), (9, 5), (9, 5), (9, 5), (9, 5), (9, 5), (9, 5), (9, 5), (9, 5), (9, 5), (9, 5), (9, 5), (9, 5), (9, 5), (9, 5), (5, 6), (0, 4), (0, 10), (10, 6), (1, 14), (0, 8), (0, 12), (0, 12), (0, 12), (9, 5), (9, 5), (9, 5), (9, 5), (9, 5), (9, 5), (9, 5), (9, 5), (9, 5), (9, 5), (9, 5), (9, 5), (9, 5), (9, 5), (7, 17), (0, 64), (0, 14), (0, 168), (0, 8), (0, 7), (0, 7), (4, 8), (0, 120), (10, 6), (1, 14), (0, 8), (0, 12), (0, 12), (0, 12), (9, 5), (9, 5), (9, 5), (9, 5), (9, 5), (9, 5), (9, 5), (9, 5), (9, 5), (9, 5), (9, 5), (9, 5), (9, 5), (9, 5), (2, 4), (0, 7), (8, 3), (0, 40), (8, 3), (0, 40), (8, 3), (0, 40), (8, 3), (0, 40), (12, 31), (0, 123), (0, 123), (0, 123), (0, 8), (0, 72), (0, 8), (0, 8), (0, 120), (3, 7), (0, 1200), (0, 4), (0, 4), (0, 160), (0, 40)]
def am_rl : List (List (Option Nat)) := [[some 1, some 25, none, some 49, some 69, some 76, some 98, some 99], [some 2, some 22, some 24], [some 3, none, some 4, some 5, some 6, some 7], [some 8, some 9, some 10, some 11, some 12, some 13, some 14, some 15, some 16, some 17, some 18, some 19, some 20, some 21], [], [], [], [], [], [], [], [], [], [], [], [], [], [], [], [], [], [], [some 23], [], [], [some 26, some 46, some 48], [some 27, none, some 28, some 29, some 30, some 31], [some 32, some 33, some 34, some 35, some 36, some 37, some 38, some 39, some 40, some 41, some 42, some 43, some 44, some 45], [], [], [], [], [], [], [], [], [], [], [], [], [], [], [], [], [], [], [some 47], [], [], [some 50, none, some 51, some 52, some 53, some 54], [some 55, some 56, some 57, some 58, some 59, some 60, some 61, some 62, some 63, some 64, some 65, some 66, some 67, some 68], [], [], [], [], [], [], [], [], [], [], [], [], [], [], [], [], [], [], [some 70, some 71, some 72, some 73, none, none, none, none, none, none, none, some 74, none, none, none, some 75], [], [], [], [], [], [], [some 77, none, some 78], [], [some 79, none, some 80, some 81, some 82, some 83], [some 84, some 85, some 86, some 87, some 88, some 89, some 90, some 91, some 92, some 93, some 94, some 95, some 96, some 97], [], [], [], [], [], [], [], [], [], [], [], [], [], [], [], [], [], [], [some 100, some 102, some 104, some 106], [], [none, none, some 101], [], [none, none, some 103], [], [none, none, some 105], [], [none, none, some 107], [], [some 109, some 110, some 111, none, some 112, none, some 113, some 114, some 115, none, none, none, none, none, none, some 116, none, none, none, none, none, none, some 117, some 118, none, none, none, some 119, some 120, some 121, some 122], [], [], [], [], [], [], [], [], [some 1000006, some 1000000, some 1000001, some 1000002, some 1000003, some 1000004, some 1000005], [], [], [], [], []]
end
section
theorem dX0_init_0 : decode cX0_init 0 = .ok (.aload_n 0, 1) := by decide +kernel
theorem dX0_init_1 : decode cX0_init 1 = .ok (.invokespecial 3, 3) := by decide +kernel
theorem dX0_init_4 : decode cX0_init 4 = .ok (.aload_n 0, 1) := by decide +kernel
theorem dX0_init_5 : decode cX0_init 5 = .ok (.bipush 120, 2) := by decide +kernel
theorem dX0_init_7 : decode cX0_init 7 = .ok (.newarray .int, 2) := by decide +kernel
theorem dX0_init_9 : decode cX0_init 9 = .ok (.putfield 9, 3) := by decide +kernel
theorem dX0_init_12 : decode cX0_init 12 = .ok (.aload_n 0, 1) := by decide +kernel
theorem dX0_init_13 : decode cX0_init 13 = .ok (.iconst 0, 1) := by decide +kernel
theorem dX0_init_14 : decode cX0_init 14 = .ok (.putfield 15, 3) := by decide +kernel
theorem dX0_init_17 : decode cX0_init 17 = .ok (.aload_n 0, 1) := by decide +kernel
theorem dX0_init_18 : decode cX0_init 18 = .ok (.new 19, 3) := by decide +kernel
theorem dX0_init_21 : decode cX0_init 21 = .ok (.dup, 1) := by decide +kernel
theorem dX0_init_22 : decode cX0_init 22 = .ok (.invokespecial 21, 3) := by decide +kernel
theorem dX0_init_25 : decode cX0_init 25 = .ok (.putfield 22, 3) := by decide +kernel
theorem dX0_init_28 : decode cX0_init 28 = .ok (.aload_n 0, 1) := by decide +kernel
theorem dX0_init_29 : decode cX0_init 29 = .ok (.iconst 0, 1) := by decide +kernel
theorem dX0_init_30 : decode cX0_init 30 = .ok (.putfield 26, 3) := by decide +kernel
theorem dX0_init_33 : decode cX0_init 33 = .ok (.aload_n 0, 1) := by decide +kernel
theorem dX0_init_34 : decode cX0_init 34 = .ok (.iconst 0, 1) := by decide +kernel
theorem dX0_init_35 : decode cX0_init 35 = .ok (.putfield 29, 3) := by decide +kernel
theorem dX0_init_38 : decode cX0_init 38 = .ok (.aload_n 0, 1) := by decide +kernel
theorem dX0_init_39 : decode cX0_init 39 = .ok (.iconst 0, 1) := by decide +kernel
theorem dX0_init_40 : decode cX0_init 40 = .ok (.putfield 32, 3) := by decide +kernel
theorem dX0_init_43 : decode cX0_init 43 = .ok (.aload_n 0, 1) := by decide +kernel
theorem dX0_init_44 : decode cX0_init 44 = .ok (.iconst 0, 1) := by decide +kernel
theorem dX0_init_45 : decode cX0_init 45 = .ok (.putfield 35, 3) := by decide +kernel
theorem dX0_init_48 : decode cX0_init 48 = .ok (.aload_n 0, 1) := by decide +kernel
theorem dX0_init_49 : decode cX0_init 49 = .ok (.iconst 0, 1) := by decide +kernel
theorem dX0_init_50 : decode cX0_init 50 = .ok (.putfield 38, 3) := by decide +kernel
theorem dX0_init_53 : decode cX0_init 53 = .ok (.return_, 1) := by decide +kernel
theorem dX0_append_0 : decode cX0_append 0 = .ok (.aload_n 0, 1) := by decide +kernel
theorem dX0_append_1 : decode cX0_append 1 = .ok (.getfield 15, 3) := by decide +kernel
theorem dX0_append_4 : decode cX0_append 4 = .ok (.bipush 120, 2) := by decide +kernel
theorem dX0_append_6 : decode cX0_append 6 = .ok (.if_icmp .ge 23, 3) := by decide +kernel
theorem dX0_append_9 : decode cX0_append 9 = .ok (.aload_n 0, 1) := by decide +kernel
theorem dX0_append_10 : decode cX0_append 10 = .ok (.getfield 9, 3) := by decide +kernel
theorem dX0_append_13 : decode cX0_append 13 = .ok (.aload_n 0, 1) := by decide +kernel
theorem dX0_append_14 : decode cX0_append 14 = .ok (.getfield 15, 3) := by decide +kernel
theorem dX0_append_17 : decode cX0_append 17 = .ok (.iload_n 1, 1) := by decide +kernel
theorem dX0_append_18 : decode cX0_append 18 = .ok (.iastore, 1) := by decide +kernel
theorem dX0_append_19 : decode cX0_append 19 = .ok (.aload_n 0, 1) := by decide +kernel
theorem dX0_append_20 : decode cX0_append 20 = .ok (.dup, 1) := by decide +kernel
theorem dX0_append_21 : decode cX0_append 21 = .ok (.getfield 15, 3) := by decide +kernel
theorem dX0_append_24 : decode cX0_append 24 = .ok (.iconst 1, 1) := by decide +kernel
theorem dX0_append_25 : decode cX0_append 25 = .ok (.iadd, 1) := by decide +kernel
theorem dX0_append_26 : decode cX0_append 26 = .ok (.putfield 15, 3) := by decide +kernel
theorem dX0_append_29 : decode cX0_append 29 = .ok (.return_, 1) := by decide +kernel
theorem dX0_readAll_0 : decode cX0_readAll 0 = .ok (.aload_n 0, 1) := by decide +kernel
theorem dX0_readAll_1 : decode cX0_readAll 1 = .ok (.iconst 0, 1) := by decide +kernel
theorem dX0_readAll_2 : decode cX0_readAll 2 = .ok (.putfield 35, 3) := by decide +kernel
theorem dX0_readAll_5 : decode cX0_readAll 5 = .ok (.iconst 1, 1) := by decide +kernel
theorem dX0_readAll_6 : decode cX0_readAll 6 = .ok (.istore_n 1, 1) := by decide +kernel
theorem dX0_readAll_7 : decode cX0_readAll 7 = .ok (.iload_n 1, 1) := by decide +kernel
theorem dX0_readAll_8 : decode cX0_readAll 8 = .ok (.bipush 120, 2) := by decide +kernel
theorem dX0_readAll_10 : decode cX0_readAll 10 = .ok (.if_icmp .gt 43, 3) := by decide +kernel
theorem dX0_readAll_13 : decode cX0_readAll 13 = .ok (.aload_n 0, 1) := by decide +kernel
theorem dX0_readAll_14 : decode cX0_readAll 14 = .ok (.invokevirtual 41, 3) := by decide +kernel
theorem dX0_readAll_17 : decode cX0_readAll 17 = .ok (.aload_n 0, 1) := by decide +kernel
theorem dX0_readAll_18 : decode cX0_readAll 18 = .ok (.invokevirtual 44, 3) := by decide +kernel
theorem dX0_readAll_21 : decode cX0_readAll 21 = .ok (.ifCond .ne 6, 3) := by decide +kernel
theorem dX0_readAll_24 : decode cX0_readAll 24 = .ok (.goto 29, 3) := by decide +kernel
theorem dX0_readAll_27 : decode cX0_readAll 27 = .ok (.aload_n 0, 1) := by decide +kernel
theorem dX0_readAll_28 : decode cX0_readAll 28 = .ok (.getfield 29, 3) := by decide +kernel
theorem dX0_readAll_31 : decode cX0_readAll 31 = .ok (.ifCond .ne 5, 3) := by decide +kernel
theorem dX0_readAll_34 : decode cX0_readAll 34 = .ok (.iload_n 1, 1) := by decide +kernel
theorem dX0_readAll_35 : decode cX0_readAll 35 = .ok (.ireturn, 1) := by decide +kernel
theorem dX0_readAll_36 : decode cX0_readAll 36 = .ok (.aload_n 0, 1) := by decide +kernel
theorem dX0_readAll_37 : decode cX0_readAll 37 = .ok (.getfield 29, 3) := by decide +kernel
theorem dX0_readAll_40 : decode cX0_readAll 40 = .ok (.iconst 3, 1) := by decide +kernel
theorem dX0_readAll_41 : decode cX0_readAll 41 = .ok (.if_icmp .eq 6, 3) := by decide +kernel
theorem dX0_readAll_44 : decode cX0_readAll 44 = .ok (.goto 9, 3) := by decide +kernel
theorem dX0_readAll_47 : decode cX0_readAll 47 = .ok (.iinc 1 1, 3) := by decide +kernel
theorem dX0_readAll_50 : decode cX0_readAll 50 = .ok (.goto (-43), 3) := by decide +kernel
theorem dX0_readAll_53 : decode cX0_readAll 53 = .ok (.iconst (-1), 1) := by decide +kernel
theorem dX0_readAll_54 : decode cX0_readAll 54 = .ok (.aload_n 0, 1) := by decide +kernel
theorem dX0_readAll_55 : decode cX0_readAll 55 = .ok (.getfield 32, 3) := by decide +kernel
theorem dX0_readAll_58 : decode cX0_readAll 58 = .ok (.isub, 1) := by decide +kernel
theorem dX0_readAll_59 : decode cX0_readAll 59 = .ok (.ireturn, 1) := by decide +kernel
theorem dX0_advance_0 : decode cX0_advance 0 = .ok (.aload_n 0, 1) := by decide +kernel
theorem dX0_advance_1 : decode cX0_advance 1 = .ok (.aload_n 0, 1) := by decide +kernel
theorem dX0_advance_2 : decode cX0_advance 2 = .ok (.getfield 35, 3) := by decide +kernel
theorem dX0_advance_5 : decode cX0_advance 5 = .ok (.putfield 32, 3) := by decide +kernel
theorem dX0_advance_8 : decode cX0_advance 8 = .ok (.aload_n 0, 1) := by decide +kernel
theorem dX0_advance_9 : decode cX0_advance 9 = .ok (.getfield 32, 3) := by decide +kernel
theorem dX0_advance_12 : decode cX0_advance 12 = .ok (.aload_n 0, 1) := by decide +kernel
theorem dX0_advance_13 : decode cX0_advance 13 = .ok (.getfield 15, 3) := by decide +kernel
theorem dX0_advance_16 : decode cX0_advance 16 = .ok (.if_icmp .ge 29, 3) := by decide +kernel
theorem dX0_advance_19 : decode cX0_advance 19 = .ok (.aload_n 0, 1) := by decide +kernel
theorem dX0_advance_20 : decode cX0_advance 20 = .ok (.aload_n 0, 1) := by decide +kernel
theorem dX0_advance_21 : decode cX0_advance 21 = .ok (.getfield 32, 3) := by decide +kernel
theorem dX0_advance_24 : decode cX0_advance 24 = .ok (.invokevirtual 48, 3) := by decide +kernel
theorem dX0_advance_27 : decode cX0_advance 27 = .ok (.bipush 32, 2) := by decide +kernel
theorem dX0_advance_29 : decode cX0_advance 29 = .ok (.if_icmp .ne 16, 3) := by decide +kernel
theorem dX0_advance_32 : decode cX0_advance 32 = .ok (.aload_n 0, 1) := by decide +kernel
theorem dX0_advance_33 : decode cX0_advance 33 = .ok (.dup, 1) := by decide +kernel
theorem dX0_advance_34 : decode cX0_advance 34 = .ok (.getfield 32, 3) := by decide +kernel
theorem dX0_advance_37 : decode cX0_advance 37 = .ok (.iconst 1, 1) := by decide +kernel
theorem dX0_advance_38 : decode cX0_advance 38 = .ok (.iadd, 1) := by decide +kernel
theorem dX0_advance_39 : decode cX0_advance 39 = .ok (.putfield 32, 3) := by decide +kernel
theorem dX0_advance_42 : decode cX0_advance 42 = .ok (.goto (-34), 3) := by decide +kernel
theorem dX0_advance_45 : decode cX0_advance 45 = .ok (.aload_n 0, 1) := by decide +kernel
theorem dX0_advance_46 : decode cX0_advance 46 = .ok (.aload_n 0, 1) := by decide +kernel
theorem dX0_advance_47 : decode cX0_advance 47 = .ok (.getfield 32, 3) := by decide +kernel
theorem dX0_advance_50 : decode cX0_advance 50 = .ok (.putfield 35, 3) := by decide +kernel
theorem dX0_advance_53 : decode cX0_advance 53 = .ok (.aload_n 0, 1) := by decide +kernel
theorem dX0_advance_54 : decode cX0_advance 54 = .ok (.iconst 0, 1) := by decide +kernel
theorem dX0_advance_55 : decode cX0_advance 55 = .ok (.putfield 38, 3) := by decide +kernel
theorem dX0_advance_58 : decode cX0_advance 58 = .ok (.aload_n 0, 1) := by decide +kernel
theorem dX0_advance_59 : decode cX0_advance 59 = .ok (.getfield 32, 3) := by decide +kernel
theorem dX0_advance_62 : decode cX0_advance 62 = .ok (.aload_n 0, 1) := by decide +kernel
theorem dX0_advance_63 : decode cX0_advance 63 = .ok (.getfield 15, 3) := by decide +kernel
theorem dX0_advance_66 : decode cX0_advance 66 = .ok (.if_icmp .lt 11, 3) := by decide +kernel
theorem dX0_advance_69 : decode cX0_advance 69 = .ok (.aload_n 0, 1) := by decide +kernel
theorem dX0_advance_70 : decode cX0_advance 70 = .ok (.iconst 0, 1) := by decide +kernel
theorem dX0_advance_71 : decode cX0_advance 71 = .ok (.putfield 29, 3) := by decide +kernel
theorem dX0_advance_74 : decode cX0_advance 74 = .ok (.goto 178, 3) := by decide +kernel
theorem dX0_advance_77 : decode cX0_advance 77 = .ok (.aload_n 0, 1) := by decide +kernel
theorem dX0_advance_78 : decode cX0_advance 78 = .ok (.aload_n 0, 1) := by decide +kernel
theorem dX0_advance_79 : decode cX0_advance 79 = .ok (.getfield 32, 3) := by decide +kernel
theorem dX0_advance_82 : decode cX0_advance 82 = .ok (.invokevirtual 48, 3) := by decide +kernel
theorem dX0_advance_85 : decode cX0_advance 85 = .ok (.invokestatic 52, 3) := by decide +kernel
theorem dX0_advance_88 : decode cX0_advance 88 = .ok (.ifCond .eq 46, 3) := by decide +kernel
theorem dX0_advance_91 : decode cX0_advance 91 = .ok (.aload_n 0, 1) := by decide +kernel
theorem dX0_advance_92 : decode cX0_advance 92 = .ok (.iconst 1, 1) := by decide +kernel
theorem dX0_advance_93 : decode cX0_advance 93 = .ok (.putfield 29, 3) := by decide +kernel
theorem dX0_advance_96 : decode cX0_advance 96 = .ok (.aload_n 0, 1) := by decide +kernel
theorem dX0_advance_97 : decode cX0_advance 97 = .ok (.getfield 35, 3) := by decide +kernel
theorem dX0_advance_100 : decode cX0_advance 100 = .ok (.aload_n 0, 1) := by decide +kernel
theorem dX0_advance_101 : decode cX0_advance 101 = .ok (.getfield 15, 3) := by decide +kernel
theorem dX0_advance_104 : decode cX0_advance 104 = .ok (.if_icmp .ge 148, 3) := by decide +kernel
theorem dX0_advance_107 : decode cX0_advance 107 = .ok (.aload_n 0, 1) := by decide +kernel
theorem dX0_advance_108 : decode cX0_advance 108 = .ok (.aload_n 0, 1) := by decide +kernel
theorem dX0_advance_109 : decode cX0_advance 109 = .ok (.getfield 35, 3) := by decide +kernel
theorem dX0_advance_112 : decode cX0_advance 112 = .ok (.invokevirtual 48, 3) := by decide +kernel
theorem dX0_advance_115 : decode cX0_advance 115 = .ok (.invokestatic 52, 3) := by decide +kernel
theorem dX0_advance_118 : decode cX0_advance 118 = .ok (.ifCond .eq 134, 3) := by decide +kernel
theorem dX0_advance_121 : decode cX0_advance 121 = .ok (.aload_n 0, 1) := by decide +kernel
theorem dX0_advance_122 : decode cX0_advance 122 = .ok (.dup, 1) := by decide +kernel
theorem dX0_advance_123 : decode cX0_advance 123 = .ok (.getfield 35, 3) := by decide +kernel
theorem dX0_advance_126 : decode cX0_advance 126 = .ok (.iconst 1, 1) := by decide +kernel
theorem dX0_advance_127 : decode cX0_advance 127 = .ok (.iadd, 1) := by decide +kernel
theorem dX0_advance_128 : decode cX0_advance 128 = .ok (.putfield 35, 3) := by decide +kernel
theorem dX0_advance_131 : decode cX0_advance 131 = .ok (.goto (-35), 3) := by decide +kernel
theorem dX0_advance_134 : decode cX0_advance 134 = .ok (.aload_n 0, 1) := by decide +kernel
theorem dX0_advance_135 : decode cX0_advance 135 = .ok (.aload_n 0, 1) := by decide +kernel
theorem dX0_advance_136 : decode cX0_advance 136 = .ok (.getfield 32, 3) := by decide +kernel
theorem dX0_advance_139 : decode cX0_advance 139 = .ok (.invokevirtual 48, 3) := by decide +kernel
theorem dX0_advance_142 : decode cX0_advance 142 = .ok (.invokestatic 56, 3) := by decide +kernel
theorem dX0_advance_145 : decode cX0_advance 145 = .ok (.ifCond .eq 75, 3) := by decide +kernel
theorem dX0_advance_148 : decode cX0_advance 148 = .ok (.aload_n 0, 1) := by decide +kernel
theorem dX0_advance_149 : decode cX0_advance 149 = .ok (.iconst 2, 1) := by decide +kernel
theorem dX0_advance_150 : decode cX0_advance 150 = .ok (.putfield 29, 3) := by decide +kernel
theorem dX0_advance_153 : decode cX0_advance 153 = .ok (.aload_n 0, 1) := by decide +kernel
theorem dX0_advance_154 : decode cX0_advance 154 = .ok (.getfield 35, 3) := by decide +kernel
theorem dX0_advance_157 : decode cX0_advance 157 = .ok (.aload_n 0, 1) := by decide +kernel
theorem dX0_advance_158 : decode cX0_advance 158 = .ok (.getfield 15, 3) := by decide +kernel
theorem dX0_advance_161 : decode cX0_advance 161 = .ok (.if_icmp .ge 91, 3) := by decide +kernel
theorem dX0_advance_164 : decode cX0_advance 164 = .ok (.aload_n 0, 1) := by decide +kernel
theorem dX0_advance_165 : decode cX0_advance 165 = .ok (.aload_n 0, 1) := by decide +kernel
theorem dX0_advance_166 : decode cX0_advance 166 = .ok (.getfield 35, 3) := by decide +kernel
theorem dX0_advance_169 : decode cX0_advance 169 = .ok (.invokevirtual 48, 3) := by decide +kernel
theorem dX0_advance_172 : decode cX0_advance 172 = .ok (.invokestatic 56, 3) := by decide +kernel
theorem dX0_advance_175 : decode cX0_advance 175 = .ok (.ifCond .eq 77, 3) := by decide +kernel
theorem dX0_advance_178 : decode cX0_advance 178 = .ok (.aload_n 0, 1) := by decide +kernel
theorem dX0_advance_179 : decode cX0_advance 179 = .ok (.sipush 10000, 3) := by decide +kernel
theorem dX0_advance_182 : decode cX0_advance 182 = .ok (.aload_n 0, 1) := by decide +kernel
theorem dX0_advance_183 : decode cX0_advance 183 = .ok (.getfield 38, 3) := by decide +kernel
theorem dX0_advance_186 : decode cX0_advance 186 = .ok (.bipush 10, 2) := by decide +kernel
theorem dX0_advance_188 : decode cX0_advance 188 = .ok (.imul, 1) := by decide +kernel
theorem dX0_advance_189 : decode cX0_advance 189 = .ok (.aload_n 0, 1) := by decide +kernel
theorem dX0_advance_190 : decode cX0_advance 190 = .ok (.aload_n 0, 1) := by decide +kernel
theorem dX0_advance_191 : decode cX0_advance 191 = .ok (.getfield 35, 3) := by decide +kernel
theorem dX0_advance_194 : decode cX0_advance 194 = .ok (.invokevirtual 48, 3) := by decide +kernel
theorem dX0_advance_197 : decode cX0_advance 197 = .ok (.iadd, 1) := by decide +kernel
theorem dX0_advance_198 : decode cX0_advance 198 = .ok (.bipush 48, 2) := by decide +kernel
theorem dX0_advance_200 : decode cX0_advance 200 = .ok (.isub, 1) := by decide +kernel
theorem dX0_advance_201 : decode cX0_advance 201 = .ok (.invokestatic 59, 3) := by decide +kernel
theorem dX0_advance_204 : decode cX0_advance 204 = .ok (.putfield 38, 3) := by decide +kernel
theorem dX0_advance_207 : decode cX0_advance 207 = .ok (.aload_n 0, 1) := by decide +kernel
theorem dX0_advance_208 : decode cX0_advance 208 = .ok (.dup, 1) := by decide +kernel
theorem dX0_advance_209 : decode cX0_advance 209 = .ok (.getfield 35, 3) := by decide +kernel
theorem dX0_advance_212 : decode cX0_advance 212 = .ok (.iconst 1, 1) := by decide +kernel
theorem dX0_advance_213 : decode cX0_advance 213 = .ok (.iadd, 1) := by decide +kernel
theorem dX0_advance_214 : decode cX0_advance 214 = .ok (.putfield 35, 3) := by decide +kernel
theorem dX0_advance_217 : decode cX0_advance 217 = .ok (.goto (-64), 3) := by decide +kernel
theorem dX0_advance_220 : decode cX0_advance 220 = .ok (.aload_n 0, 1) := by decide +kernel
theorem dX0_advance_221 : decode cX0_advance 221 = .ok (.aload_n 0, 1) := by decide +kernel
theorem dX0_advance_222 : decode cX0_advance 222 = .ok (.aload_n 0, 1) := by decide +kernel
theorem dX0_advance_223 : decode cX0_advance 223 = .ok (.getfield 32, 3) := by decide +kernel
theorem dX0_advance_226 : decode cX0_advance 226 = .ok (.invokevirtual 48, 3) := by decide +kernel
theorem dX0_advance_229 : decode cX0_advance 229 = .ok (.bipush 59, 2) := by decide +kernel
theorem dX0_advance_231 : decode cX0_advance 231 = .ok (.if_icmp .ne 7, 3) := by decide +kernel
theorem dX0_advance_234 : decode cX0_advance 234 = .ok (.iconst 3, 1) := by decide +kernel
theorem dX0_advance_235 : decode cX0_advance 235 = .ok (.goto 4, 3) := by decide +kernel
theorem dX0_advance_238 : decode cX0_advance 238 = .ok (.iconst 4, 1) := by decide +kernel
theorem dX0_advance_239 : decode cX0_advance 239 = .ok (.putfield 29, 3) := by decide +kernel
theorem dX0_advance_242 : decode cX0_advance 242 = .ok (.aload_n 0, 1) := by decide +kernel
theorem dX0_advance_243 : decode cX0_advance 243 = .ok (.dup, 1) := by decide +kernel
theorem dX0_advance_244 : decode cX0_advance 244 = .ok (.getfield 35, 3) := by decide +kernel
theorem dX0_advance_247 : decode cX0_advance 247 = .ok (.iconst 1, 1) := by decide +kernel
theorem dX0_advance_248 : decode cX0_advance 248 = .ok (.iadd, 1) := by decide +kernel
theorem dX0_advance_249 : decode cX0_advance 249 = .ok (.putfield 35, 3) := by decide +kernel
theorem dX0_advance_252 : decode cX0_advance 252 = .ok (.return_, 1) := by decide +kernel
theorem dX0_readItem_0 : decode cX0_readItem 0 = .ok (.aload_n 0, 1) := by decide +kernel
theorem dX0_readItem_1 : decode cX0_readItem 1 = .ok (.invokevirtual 65, 3) := by decide +kernel
theorem dX0_readItem_4 : decode cX0_readItem 4 = .ok (.istore_n 1, 1) := by decide +kernel
theorem dX0_readItem_5 : decode cX0_readItem 5 = .ok (.iload_n 1, 1) := by decide +kernel
theorem dX0_readItem_6 : decode cX0_readItem 6 = .ok (.ifCond .lt 27, 3) := by decide +kernel
theorem dX0_readItem_9 : decode cX0_readItem 9 = .ok (.aload_n 0, 1) := by decide +kernel
theorem dX0_readItem_10 : decode cX0_readItem 10 = .ok (.getfield 22, 3) := by decide +kernel
theorem dX0_readItem_13 : decode cX0_readItem 13 = .ok (.invokevirtual 69, 3) := by decide +kernel
theorem dX0_readItem_16 : decode cX0_readItem 16 = .ok (.ifCond .ne 15, 3) := by decide +kernel
theorem dX0_readItem_19 : decode cX0_readItem 19 = .ok (.aload_n 0, 1) := by decide +kernel
theorem dX0_readItem_20 : decode cX0_readItem 20 = .ok (.iload_n 1, 1) := by decide +kernel
theorem dX0_readItem_21 : decode cX0_readItem 21 = .ok (.invokevirtual 72, 3) := by decide +kernel
theorem dX0_readItem_24 : decode cX0_readItem 24 = .ok (.ifCond .eq 7, 3) := by decide +kernel
theorem dX0_readItem_27 : decode cX0_readItem 27 = .ok (.iconst 1, 1) := by decide +kernel
theorem dX0_readItem_28 : decode cX0_readItem 28 = .ok (.goto 4, 3) := by decide +kernel
theorem dX0_readItem_31 : decode cX0_readItem 31 = .ok (.iconst 0, 1) := by decide +kernel
theorem dX0_readItem_32 : decode cX0_readItem 32 = .ok (.ireturn, 1) := by decide +kernel
theorem dX0_readItem_33 : decode cX0_readItem 33 = .ok (.aload_n 0, 1) := by decide +kernel
theorem dX0_readItem_34 : decode cX0_readItem 34 = .ok (.ldc 75, 2) := by decide +kernel
theorem dX0_readItem_36 : decode cX0_readItem 36 = .ok (.invokevirtual 77, 3) := by decide +kernel
theorem dX0_readItem_39 : decode cX0_readItem 39 = .ok (.ifCond .eq 8, 3) := by decide +kernel
theorem dX0_readItem_42 : decode cX0_readItem 42 = .ok (.aload_n 0, 1) := by decide +kernel
theorem dX0_readItem_43 : decode cX0_readItem 43 = .ok (.invokevirtual 81, 3) := by decide +kernel
theorem dX0_readItem_46 : decode cX0_readItem 46 = .ok (.ireturn, 1) := by decide +kernel
theorem dX0_readItem_47 : decode cX0_readItem 47 = .ok (.aload_n 0, 1) := by decide +kernel
theorem dX0_readItem_48 : decode cX0_readItem 48 = .ok (.ldc 84, 2) := by decide +kernel
theorem dX0_readItem_50 : decode cX0_readItem 50 = .ok (.invokevirtual 77, 3) := by decide +kernel
theorem dX0_readItem_53 : decode cX0_readItem 53 = .ok (.ifCond .eq 8, 3) := by decide +kernel
theorem dX0_readItem_56 : decode cX0_readItem 56 = .ok (.aload_n 0, 1) := by decide +kernel
theorem dX0_readItem_57 : decode cX0_readItem 57 = .ok (.invokevirtual 86, 3) := by decide +kernel
theorem dX0_readItem_60 : decode cX0_readItem 60 = .ok (.ireturn, 1) := by decide +kernel
theorem dX0_readItem_61 : decode cX0_readItem 61 = .ok (.aload_n 0, 1) := by decide +kernel
theorem dX0_readItem_62 : decode cX0_readItem 62 = .ok (.ldc 89, 2) := by decide +kernel
theorem dX0_readItem_64 : decode cX0_readItem 64 = .ok (.invokevirtual 77, 3) := by decide +kernel
theorem dX0_readItem_67 : decode cX0_readItem 67 = .ok (.ifCond .ne 12, 3) := by decide +kernel
theorem dX0_readItem_70 : decode cX0_readItem 70 = .ok (.aload_n 0, 1) := by decide +kernel
theorem dX0_readItem_71 : decode cX0_readItem 71 = .ok (.ldc 90, 2) := by decide +kernel
theorem dX0_readItem_73 : decode cX0_readItem 73 = .ok (.invokevirtual 77, 3) := by decide +kernel
theorem dX0_readItem_76 : decode cX0_readItem 76 = .ok (.ifCond .eq 27, 3) := by decide +kernel
theorem dX0_readItem_79 : decode cX0_readItem 79 = .ok (.aload_n 0, 1) := by decide +kernel
theorem dX0_readItem_80 : decode cX0_readItem 80 = .ok (.aload_n 0, 1) := by decide +kernel
theorem dX0_readItem_81 : decode cX0_readItem 81 = .ok (.ldc 89, 2) := by decide +kernel
theorem dX0_readItem_83 : decode cX0_readItem 83 = .ok (.invokevirtual 77, 3) := by decide +kernel
theorem dX0_readItem_86 : decode cX0_readItem 86 = .ok (.ifCond .eq 7, 3) := by decide +kernel
theorem dX0_readItem_89 : decode cX0_readItem 89 = .ok (.iconst 1, 1) := by decide +kernel
theorem dX0_readItem_90 : decode cX0_readItem 90 = .ok (.goto 4, 3) := by decide +kernel
theorem dX0_readItem_93 : decode cX0_readItem 93 = .ok (.iconst 0, 1) := by decide +kernel
theorem dX0_readItem_94 : decode cX0_readItem 94 = .ok (.putfield 26, 3) := by decide +kernel
theorem dX0_readItem_97 : decode cX0_readItem 97 = .ok (.aload_n 0, 1) := by decide +kernel
theorem dX0_readItem_98 : decode cX0_readItem 98 = .ok (.invokevirtual 41, 3) := by decide +kernel
theorem dX0_readItem_101 : decode cX0_readItem 101 = .ok (.iconst 1, 1) := by decide +kernel
theorem dX0_readItem_102 : decode cX0_readItem 102 = .ok (.ireturn, 1) := by decide +kernel
theorem dX0_readItem_103 : decode cX0_readItem 103 = .ok (.iconst 0, 1) := by decide +kernel
theorem dX0_readItem_104 : decode cX0_readItem 104 = .ok (.ireturn, 1) := by decide +kernel
theorem dX0_readStreet_0 : decode cX0_readStreet 0 = .ok (.aload_n 0, 1) := by decide +kernel
theorem dX0_readStreet_1 : decode cX0_readStreet 1 = .ok (.invokevirtual 41, 3) := by decide +kernel
theorem dX0_readStreet_4 : decode cX0_readStreet 4 = .ok (.aload_n 0, 1) := by decide +kernel
theorem dX0_readStreet_5 : decode cX0_readStreet 5 = .ok (.iconst 0, 1) := by decide +kernel
theorem dX0_readStreet_6 : decode cX0_readStreet 6 = .ok (.bipush 7, 2) := by decide +kernel
theorem dX0_readStreet_8 : decode cX0_readStreet 8 = .ok (.invokevirtual 92, 3) := by decide +kernel
theorem dX0_readStreet_11 : decode cX0_readStreet 11 = .ok (.ifCond .ne 5, 3) := by decide +kernel
theorem dX0_readStreet_14 : decode cX0_readStreet 14 = .ok (.iconst 0, 1) := by decide +kernel
theorem dX0_readStreet_15 : decode cX0_readStreet 15 = .ok (.ireturn, 1) := by decide +kernel
theorem dX0_readStreet_16 : decode cX0_readStreet 16 = .ok (.aload_n 0, 1) := by decide +kernel
theorem dX0_readStreet_17 : decode cX0_readStreet 17 = .ok (.getfield 38, 3) := by decide +kernel
theorem dX0_readStreet_20 : decode cX0_readStreet 20 = .ok (.istore_n 2, 1) := by decide +kernel
theorem dX0_readStreet_21 : decode cX0_readStreet 21 = .ok (.aload_n 0, 1) := by decide +kernel
theorem dX0_readStreet_22 : decode cX0_readStreet 22 = .ok (.invokevirtual 41, 3) := by decide +kernel
theorem dX0_readStreet_25 : decode cX0_readStreet 25 = .ok (.aload_n 0, 1) := by decide +kernel
theorem dX0_readStreet_26 : decode cX0_readStreet 26 = .ok (.iconst 0, 1) := by decide +kernel
theorem dX0_readStreet_27 : decode cX0_readStreet 27 = .ok (.bipush 7, 2) := by decide +kernel
theorem dX0_readStreet_29 : decode cX0_readStreet 29 = .ok (.invokevirtual 92, 3) := by decide +kernel
theorem dX0_readStreet_32 : decode cX0_readStreet 32 = .ok (.ifCond .eq 11, 3) := by decide +kernel
theorem dX0_readStreet_35 : decode cX0_readStreet 35 = .ok (.aload_n 0, 1) := by decide +kernel
theorem dX0_readStreet_36 : decode cX0_readStreet 36 = .ok (.getfield 38, 3) := by decide +kernel
theorem dX0_readStreet_39 : decode cX0_readStreet 39 = .ok (.iload_n 2, 1) := by decide +kernel
theorem dX0_readStreet_40 : decode cX0_readStreet 40 = .ok (.if_icmp .ne 5, 3) := by decide +kernel
theorem dX0_readStreet_43 : decode cX0_readStreet 43 = .ok (.iconst 0, 1) := by decide +kernel
theorem dX0_readStreet_44 : decode cX0_readStreet 44 = .ok (.ireturn, 1) := by decide +kernel
theorem dX0_readStreet_45 : decode cX0_readStreet 45 = .ok (.aload_n 0, 1) := by decide +kernel
theorem dX0_readStreet_46 : decode cX0_readStreet 46 = .ok (.getfield 38, 3) := by decide +kernel
theorem dX0_readStreet_49 : decode cX0_readStreet 49 = .ok (.istore_n 3, 1) := by decide +kernel
theorem dX0_readStreet_50 : decode cX0_readStreet 50 = .ok (.aload_n 0, 1) := by decide +kernel
theorem dX0_readStreet_51 : decode cX0_readStreet 51 = .ok (.invokevirtual 41, 3) := by decide +kernel
theorem dX0_readStreet_54 : decode cX0_readStreet 54 = .ok (.iconst 5, 1) := by decide +kernel
theorem dX0_readStreet_55 : decode cX0_readStreet 55 = .ok (.istore 4, 2) := by decide +kernel
theorem dX0_readStreet_57 : decode cX0_readStreet 57 = .ok (.aload_n 0, 1) := by decide +kernel
theorem dX0_readStreet_58 : decode cX0_readStreet 58 = .ok (.ldc 96, 2) := by decide +kernel
theorem dX0_readStreet_60 : decode cX0_readStreet 60 = .ok (.invokevirtual 77, 3) := by decide +kernel
theorem dX0_readStreet_63 : decode cX0_readStreet 63 = .ok (.ifCond .eq 29, 3) := by decide +kernel
theorem dX0_readStreet_66 : decode cX0_readStreet 66 = .ok (.aload_n 0, 1) := by decide +kernel
theorem dX0_readStreet_67 : decode cX0_readStreet 67 = .ok (.invokevirtual 41, 3) := by decide +kernel
theorem dX0_readStreet_70 : decode cX0_readStreet 70 = .ok (.aload_n 0, 1) := by decide +kernel
theorem dX0_readStreet_71 : decode cX0_readStreet 71 = .ok (.iconst 1, 1) := by decide +kernel
theorem dX0_readStreet_72 : decode cX0_readStreet 72 = .ok (.bipush 20, 2) := by decide +kernel
theorem dX0_readStreet_74 : decode cX0_readStreet 74 = .ok (.invokevirtual 92, 3) := by decide +kernel
theorem dX0_readStreet_77 : decode cX0_readStreet 77 = .ok (.ifCond .ne 5, 3) := by decide +kernel
theorem dX0_readStreet_80 : decode cX0_readStreet 80 = .ok (.iconst 0, 1) := by decide +kernel
theorem dX0_readStreet_81 : decode cX0_readStreet 81 = .ok (.ireturn, 1) := by decide +kernel
theorem dX0_readStreet_82 : decode cX0_readStreet 82 = .ok (.aload_n 0, 1) := by decide +kernel
theorem dX0_readStreet_83 : decode cX0_readStreet 83 = .ok (.getfield 38, 3) := by decide +kernel
theorem dX0_readStreet_86 : decode cX0_readStreet 86 = .ok (.istore 4, 2) := by decide +kernel
theorem dX0_readStreet_88 : decode cX0_readStreet 88 = .ok (.aload_n 0, 1) := by decide +kernel
theorem dX0_readStreet_89 : decode cX0_readStreet 89 = .ok (.invokevirtual 41, 3) := by decide +kernel
theorem dX0_readStreet_92 : decode cX0_readStreet 92 = .ok (.iconst 0, 1) := by decide +kernel
theorem dX0_readStreet_93 : decode cX0_readStreet 93 = .ok (.istore 5, 2) := by decide +kernel
theorem dX0_readStreet_95 : decode cX0_readStreet 95 = .ok (.aload_n 0, 1) := by decide +kernel
theorem dX0_readStreet_96 : decode cX0_readStreet 96 = .ok (.ldc 98, 2) := by decide +kernel
theorem dX0_readStreet_98 : decode cX0_readStreet 98 = .ok (.invokevirtual 77, 3) := by decide +kernel
theorem dX0_readStreet_101 : decode cX0_readStreet 101 = .ok (.ifCond .eq 10, 3) := by decide +kernel
theorem dX0_readStreet_104 : decode cX0_readStreet 104 = .ok (.iconst 1, 1) := by decide +kernel
theorem dX0_readStreet_105 : decode cX0_readStreet 105 = .ok (.istore 5, 2) := by decide +kernel
theorem dX0_readStreet_107 : decode cX0_readStreet 107 = .ok (.aload_n 0, 1) := by decide +kernel
theorem dX0_readStreet_108 : decode cX0_readStreet 108 = .ok (.invokevirtual 41, 3) := by decide +kernel
theorem dX0_readStreet_111 : decode cX0_readStreet 111 = .ok (.aload_n 0, 1) := by decide +kernel
theorem dX0_readStreet_112 : decode cX0_readStreet 112 = .ok (.getfield 22, 3) := by decide +kernel
theorem dX0_readStreet_115 : decode cX0_readStreet 115 = .ok (.iload_n 1, 1) := by decide +kernel
theorem dX0_readStreet_116 : decode cX0_readStreet 116 = .ok (.iload_n 2, 1) := by decide +kernel
theorem dX0_readStreet_117 : decode cX0_readStreet 117 = .ok (.iload_n 3, 1) := by decide +kernel
theorem dX0_readStreet_118 : decode cX0_readStreet 118 = .ok (.iload 4, 2) := by decide +kernel
theorem dX0_readStreet_120 : decode cX0_readStreet 120 = .ok (.iload 5, 2) := by decide +kernel
theorem dX0_readStreet_122 : decode cX0_readStreet 122 = .ok (.invokevirtual 100, 3) := by decide +kernel
theorem dX0_readStreet_125 : decode cX0_readStreet 125 = .ok (.pop, 1) := by decide +kernel
theorem dX0_readStreet_126 : decode cX0_readStreet 126 = .ok (.iconst 1, 1) := by decide +kernel
theorem dX0_readStreet_127 : decode cX0_readStreet 127 = .ok (.ireturn, 1) := by decide +kernel
theorem dX0_readSpell_0 : decode cX0_readSpell 0 = .ok (.aload_n 0, 1) := by decide +kernel
theorem dX0_readSpell_1 : decode cX0_readSpell 1 = .ok (.invokevirtual 41, 3) := by decide +kernel
theorem dX0_readSpell_4 : decode cX0_readSpell 4 = .ok (.aload_n 0, 1) := by decide +kernel
theorem dX0_readSpell_5 : decode cX0_readSpell 5 = .ok (.iconst 0, 1) := by decide +kernel
theorem dX0_readSpell_6 : decode cX0_readSpell 6 = .ok (.bipush 11, 2) := by decide +kernel
theorem dX0_readSpell_8 : decode cX0_readSpell 8 = .ok (.invokevirtual 92, 3) := by decide +kernel
theorem dX0_readSpell_11 : decode cX0_readSpell 11 = .ok (.ifCond .ne 5, 3) := by decide +kernel
theorem dX0_readSpell_14 : decode cX0_readSpell 14 = .ok (.iconst 0, 1) := by decide +kernel
theorem dX0_readSpell_15 : decode cX0_readSpell 15 = .ok (.ireturn, 1) := by decide +kernel
theorem dX0_readSpell_16 : decode cX0_readSpell 16 = .ok (.aload_n 0, 1) := by decide +kernel
theorem dX0_readSpell_17 : decode cX0_readSpell 17 = .ok (.getfield 38, 3) := by decide +kernel
theorem dX0_readSpell_20 : decode cX0_readSpell 20 = .ok (.istore_n 1, 1) := by decide +kernel
theorem dX0_readSpell_21 : decode cX0_readSpell 21 = .ok (.aload_n 0, 1) := by decide +kernel
theorem dX0_readSpell_22 : decode cX0_readSpell 22 = .ok (.invokevirtual 41, 3) := by decide +kernel
theorem dX0_readSpell_25 : decode cX0_readSpell 25 = .ok (.aload_n 0, 1) := by decide +kernel
theorem dX0_readSpell_26 : decode cX0_readSpell 26 = .ok (.ldc 104, 2) := by decide +kernel
theorem dX0_readSpell_28 : decode cX0_readSpell 28 = .ok (.aload_n 0, 1) := by decide +kernel
theorem dX0_readSpell_29 : decode cX0_readSpell 29 = .ok (.getfield 22, 3) := by decide +kernel
theorem dX0_readSpell_32 : decode cX0_readSpell 32 = .ok (.getfield 106, 3) := by decide +kernel
theorem dX0_readSpell_35 : decode cX0_readSpell 35 = .ok (.iload_n 1, 1) := by decide +kernel
theorem dX0_readSpell_36 : decode cX0_readSpell 36 = .ok (.invokevirtual 108, 3) := by decide +kernel
theorem dX0_readSpell_39 : decode cX0_readSpell 39 = .ok (.ifCond .eq 24, 3) := by decide +kernel
theorem dX0_readSpell_42 : decode cX0_readSpell 42 = .ok (.aload_n 0, 1) := by decide +kernel
theorem dX0_readSpell_43 : decode cX0_readSpell 43 = .ok (.ldc 112, 2) := by decide +kernel
theorem dX0_readSpell_45 : decode cX0_readSpell 45 = .ok (.aload_n 0, 1) := by decide +kernel
theorem dX0_readSpell_46 : decode cX0_readSpell 46 = .ok (.getfield 22, 3) := by decide +kernel
theorem dX0_readSpell_49 : decode cX0_readSpell 49 = .ok (.getfield 114, 3) := by decide +kernel
theorem dX0_readSpell_52 : decode cX0_readSpell 52 = .ok (.iload_n 1, 1) := by decide +kernel
theorem dX0_readSpell_53 : decode cX0_readSpell 53 = .ok (.invokevirtual 108, 3) := by decide +kernel
theorem dX0_readSpell_56 : decode cX0_readSpell 56 = .ok (.ifCond .eq 7, 3) := by decide +kernel
theorem dX0_readSpell_59 : decode cX0_readSpell 59 = .ok (.iconst 1, 1) := by decide +kernel
theorem dX0_readSpell_60 : decode cX0_readSpell 60 = .ok (.goto 4, 3) := by decide +kernel
theorem dX0_readSpell_63 : decode cX0_readSpell 63 = .ok (.iconst 0, 1) := by decide +kernel
theorem dX0_readSpell_64 : decode cX0_readSpell 64 = .ok (.ireturn, 1) := by decide +kernel
theorem dX0_readWeather_0 : decode cX0_readWeather 0 = .ok (.aload_n 0, 1) := by decide +kernel
theorem dX0_readWeather_1 : decode cX0_readWeather 1 = .ok (.aload_n 1, 1) := by decide +kernel
theorem dX0_readWeather_2 : decode cX0_readWeather 2 = .ok (.invokevirtual 77, 3) := by decide +kernel
theorem dX0_readWeather_5 : decode cX0_readWeather 5 = .ok (.ifCond .ne 5, 3) := by decide +kernel
theorem dX0_readWeather_8 : decode cX0_readWeather 8 = .ok (.iconst 1, 1) := by decide +kernel
theorem dX0_readWeather_9 : decode cX0_readWeather 9 = .ok (.ireturn, 1) := by decide +kernel
theorem dX0_readWeather_10 : decode cX0_readWeather 10 = .ok (.aload_n 0, 1) := by decide +kernel
theorem dX0_readWeather_11 : decode cX0_readWeather 11 = .ok (.invokevirtual 41, 3) := by decide +kernel
theorem dX0_readWeather_14 : decode cX0_readWeather 14 = .ok (.aload_n 0, 1) := by decide +kernel
theorem dX0_readWeather_15 : decode cX0_readWeather 15 = .ok (.iconst 0, 1) := by decide +kernel
theorem dX0_readWeather_16 : decode cX0_readWeather 16 = .ok (.bipush 9, 2) := by decide +kernel
theorem dX0_readWeather_18 : decode cX0_readWeather 18 = .ok (.invokevirtual 92, 3) := by decide +kernel
theorem dX0_readWeather_21 : decode cX0_readWeather 21 = .ok (.ifCond .ne 5, 3) := by decide +kernel
theorem dX0_readWeather_24 : decode cX0_readWeather 24 = .ok (.iconst 0, 1) := by decide +kernel
theorem dX0_readWeather_25 : decode cX0_readWeather 25 = .ok (.ireturn, 1) := by decide +kernel
theorem dX0_readWeather_26 : decode cX0_readWeather 26 = .ok (.aload_n 2, 1) := by decide +kernel
theorem dX0_readWeather_27 : decode cX0_readWeather 27 = .ok (.iload_n 3, 1) := by decide +kernel
theorem dX0_readWeather_28 : decode cX0_readWeather 28 = .ok (.aload_n 0, 1) := by decide +kernel
theorem dX0_readWeather_29 : decode cX0_readWeather 29 = .ok (.getfield 38, 3) := by decide +kernel
theorem dX0_readWeather_32 : decode cX0_readWeather 32 = .ok (.iastore, 1) := by decide +kernel
theorem dX0_readWeather_33 : decode cX0_readWeather 33 = .ok (.aload_n 0, 1) := by decide +kernel
theorem dX0_readWeather_34 : decode cX0_readWeather 34 = .ok (.invokevirtual 41, 3) := by decide +kernel
theorem dX0_readWeather_37 : decode cX0_readWeather 37 = .ok (.iconst 1, 1) := by decide +kernel
theorem dX0_readWeather_38 : decode cX0_readWeather 38 = .ok (.ireturn, 1) := by decide +kernel
theorem dX0_readQuarter_0 : decode cX0_readQuarter 0 = .ok (.aload_n 0, 1) := by decide +kernel
theorem dX0_readQuarter_1 : decode cX0_readQuarter 1 = .ok (.invokevirtual 41, 3) := by decide +kernel
theorem dX0_readQuarter_4 : decode cX0_readQuarter 4 = .ok (.aload_n 0, 1) := by decide +kernel
theorem dX0_readQuarter_5 : decode cX0_readQuarter 5 = .ok (.iconst 0, 1) := by decide +kernel
theorem dX0_readQuarter_6 : decode cX0_readQuarter 6 = .ok (.bipush 7, 2) := by decide +kernel
theorem dX0_readQuarter_8 : decode cX0_readQuarter 8 = .ok (.invokevirtual 92, 3) := by decide +kernel
theorem dX0_readQuarter_11 : decode cX0_readQuarter 11 = .ok (.ifCond .ne 5, 3) := by decide +kernel
theorem dX0_readQuarter_14 : decode cX0_readQuarter 14 = .ok (.iconst 0, 1) := by decide +kernel
theorem dX0_readQuarter_15 : decode cX0_readQuarter 15 = .ok (.ireturn, 1) := by decide +kernel
theorem dX0_readQuarter_16 : decode cX0_readQuarter 16 = .ok (.aload_n 0, 1) := by decide +kernel
theorem dX0_readQuarter_17 : decode cX0_readQuarter 17 = .ok (.getfield 38, 3) := by decide +kernel
theorem dX0_readQuarter_20 : decode cX0_readQuarter 20 = .ok (.istore_n 1, 1) := by decide +kernel
theorem dX0_readQuarter_21 : decode cX0_readQuarter 21 = .ok (.aload_n 0, 1) := by decide +kernel
theorem dX0_readQuarter_22 : decode cX0_readQuarter 22 = .ok (.invokevirtual 41, 3) := by decide +kernel
theorem dX0_readQuarter_25 : decode cX0_readQuarter 25 = .ok (.aload_n 0, 1) := by decide +kernel
theorem dX0_readQuarter_26 : decode cX0_readQuarter 26 = .ok (.iconst 0, 1) := by decide +kernel
theorem dX0_readQuarter_27 : decode cX0_readQuarter 27 = .ok (.iconst 3, 1) := by decide +kernel
theorem dX0_readQuarter_28 : decode cX0_readQuarter 28 = .ok (.invokevirtual 92, 3) := by decide +kernel
theorem dX0_readQuarter_31 : decode cX0_readQuarter 31 = .ok (.ifCond .ne 5, 3) := by decide +kernel
theorem dX0_readQuarter_34 : decode cX0_readQuarter 34 = .ok (.iconst 0, 1) := by decide +kernel
theorem dX0_readQuarter_35 : decode cX0_readQuarter 35 = .ok (.ireturn, 1) := by decide +kernel
theorem dX0_readQuarter_36 : decode cX0_readQuarter 36 = .ok (.aload_n 0, 1) := by decide +kernel
theorem dX0_readQuarter_37 : decode cX0_readQuarter 37 = .ok (.getfield 22, 3) := by decide +kernel
theorem dX0_readQuarter_40 : decode cX0_readQuarter 40 = .ok (.getfield 116, 3) := by decide +kernel
theorem dX0_readQuarter_43 : decode cX0_readQuarter 43 = .ok (.iload_n 1, 1) := by decide +kernel
theorem dX0_readQuarter_44 : decode cX0_readQuarter 44 = .ok (.aload_n 0, 1) := by decide +kernel
theorem dX0_readQuarter_45 : decode cX0_readQuarter 45 = .ok (.getfield 38, 3) := by decide +kernel
theorem dX0_readQuarter_48 : decode cX0_readQuarter 48 = .ok (.iastore, 1) := by decide +kernel
theorem dX0_readQuarter_49 : decode cX0_readQuarter 49 = .ok (.aload_n 0, 1) := by decide +kernel
theorem dX0_readQuarter_50 : decode cX0_readQuarter 50 = .ok (.invokevirtual 41, 3) := by decide +kernel
theorem dX0_readQuarter_53 : decode cX0_readQuarter 53 = .ok (.iconst 1, 1) := by decide +kernel
theorem dX0_readQuarter_54 : decode cX0_readQuarter 54 = .ok (.ireturn, 1) := by decide +kernel
theorem dX0_kindByWord_0 : decode cX0_kindByWord 0 = .ok (.iconst 0, 1) := by decide +kernel
theorem dX0_kindByWord_1 : decode cX0_kindByWord 1 = .ok (.istore_n 1, 1) := by decide +kernel
theorem dX0_kindByWord_2 : decode cX0_kindByWord 2 = .ok (.iload_n 1, 1) := by decide +kernel
theorem dX0_kindByWord_3 : decode cX0_kindByWord 3 = .ok (.bipush 7, 2) := by decide +kernel
theorem dX0_kindByWord_5 : decode cX0_kindByWord 5 = .ok (.if_icmp .ge 22, 3) := by decide +kernel
theorem dX0_kindByWord_8 : decode cX0_kindByWord 8 = .ok (.aload_n 0, 1) := by decide +kernel
theorem dX0_kindByWord_9 : decode cX0_kindByWord 9 = .ok (.iload_n 1, 1) := by decide +kernel
theorem dX0_kindByWord_10 : decode cX0_kindByWord 10 = .ok (.invokestatic 119, 3) := by decide +kernel
theorem dX0_kindByWord_13 : decode cX0_kindByWord 13 = .ok (.invokevirtual 77, 3) := by decide +kernel
theorem dX0_kindByWord_16 : decode cX0_kindByWord 16 = .ok (.ifCond .eq 5, 3) := by decide +kernel
theorem dX0_kindByWord_19 : decode cX0_kindByWord 19 = .ok (.iload_n 1, 1) := by decide +kernel
theorem dX0_kindByWord_20 : decode cX0_kindByWord 20 = .ok (.ireturn, 1) := by decide +kernel
theorem dX0_kindByWord_21 : decode cX0_kindByWord 21 = .ok (.iinc 1 1, 3) := by decide +kernel
theorem dX0_kindByWord_24 : decode cX0_kindByWord 24 = .ok (.goto (-22), 3) := by decide +kernel
theorem dX0_kindByWord_27 : decode cX0_kindByWord 27 = .ok (.iconst (-1), 1) := by decide +kernel
theorem dX0_kindByWord_28 : decode cX0_kindByWord 28 = .ok (.ireturn, 1) := by decide +kernel
theorem dX0_wordFor_0 : decode cX0_wordFor 0 = .ok (.iload_n 0, 1) := by decide +kernel
theorem dX0_wordFor_1 : decode cX0_wordFor 1 = .ok (.tableswitch 57 1 6 #[39, 42, 45, 48, 51, 54], 39) := by decide +kernel
theorem dX0_wordFor_40 : decode cX0_wordFor 40 = .ok (.ldc 123, 2) := by decide +kernel
theorem dX0_wordFor_42 : decode cX0_wordFor 42 = .ok (.areturn, 1) := by decide +kernel
theorem dX0_wordFor_43 : decode cX0_wordFor 43 = .ok (.ldc 125, 2) := by decide +kernel
theorem dX0_wordFor_45 : decode cX0_wordFor 45 = .ok (.areturn, 1) := by decide +kernel
theorem dX0_wordFor_46 : decode cX0_wordFor 46 = .ok (.ldc 127, 2) := by decide +kernel
theorem dX0_wordFor_48 : decode cX0_wordFor 48 = .ok (.areturn, 1) := by decide +kernel
theorem dX0_wordFor_49 : decode cX0_wordFor 49 = .ok (.ldc 129, 2) := by decide +kernel
theorem dX0_wordFor_51 : decode cX0_wordFor 51 = .ok (.areturn, 1) := by decide +kernel
theorem dX0_wordFor_52 : decode cX0_wordFor 52 = .ok (.ldc 131, 2) := by decide +kernel
theorem dX0_wordFor_54 : decode cX0_wordFor 54 = .ok (.areturn, 1) := by decide +kernel
theorem dX0_wordFor_55 : decode cX0_wordFor 55 = .ok (.ldc 133, 2) := by decide +kernel
theorem dX0_wordFor_57 : decode cX0_wordFor 57 = .ok (.areturn, 1) := by decide +kernel
theorem dX0_wordFor_58 : decode cX0_wordFor 58 = .ok (.ldc 135, 2) := by decide +kernel
theorem dX0_wordFor_60 : decode cX0_wordFor 60 = .ok (.areturn, 1) := by decide +kernel
theorem dX0_isWord_0 : decode cX0_isWord 0 = .ok (.aload_n 0, 1) := by decide +kernel
theorem dX0_isWord_1 : decode cX0_isWord 1 = .ok (.getfield 29, 3) := by decide +kernel
theorem dX0_isWord_4 : decode cX0_isWord 4 = .ok (.iconst 1, 1) := by decide +kernel
theorem dX0_isWord_5 : decode cX0_isWord 5 = .ok (.if_icmp .ne 19, 3) := by decide +kernel
theorem dX0_isWord_8 : decode cX0_isWord 8 = .ok (.aload_n 0, 1) := by decide +kernel
theorem dX0_isWord_9 : decode cX0_isWord 9 = .ok (.getfield 35, 3) := by decide +kernel
theorem dX0_isWord_12 : decode cX0_isWord 12 = .ok (.aload_n 0, 1) := by decide +kernel
theorem dX0_isWord_13 : decode cX0_isWord 13 = .ok (.getfield 32, 3) := by decide +kernel
theorem dX0_isWord_16 : decode cX0_isWord 16 = .ok (.isub, 1) := by decide +kernel
theorem dX0_isWord_17 : decode cX0_isWord 17 = .ok (.aload_n 1, 1) := by decide +kernel
theorem dX0_isWord_18 : decode cX0_isWord 18 = .ok (.invokevirtual 137, 3) := by decide +kernel
theorem dX0_isWord_21 : decode cX0_isWord 21 = .ok (.if_icmp .eq 5, 3) := by decide +kernel
theorem dX0_isWord_24 : decode cX0_isWord 24 = .ok (.iconst 0, 1) := by decide +kernel
theorem dX0_isWord_25 : decode cX0_isWord 25 = .ok (.ireturn, 1) := by decide +kernel
theorem dX0_isWord_26 : decode cX0_isWord 26 = .ok (.iconst 0, 1) := by decide +kernel
theorem dX0_isWord_27 : decode cX0_isWord 27 = .ok (.istore_n 2, 1) := by decide +kernel
theorem dX0_isWord_28 : decode cX0_isWord 28 = .ok (.iload_n 2, 1) := by decide +kernel
theorem dX0_isWord_29 : decode cX0_isWord 29 = .ok (.aload_n 1, 1) := by decide +kernel
theorem dX0_isWord_30 : decode cX0_isWord 30 = .ok (.invokevirtual 137, 3) := by decide +kernel
theorem dX0_isWord_33 : decode cX0_isWord 33 = .ok (.if_icmp .ge 29, 3) := by decide +kernel
theorem dX0_isWord_36 : decode cX0_isWord 36 = .ok (.aload_n 0, 1) := by decide +kernel
theorem dX0_isWord_37 : decode cX0_isWord 37 = .ok (.aload_n 0, 1) := by decide +kernel
theorem dX0_isWord_38 : decode cX0_isWord 38 = .ok (.getfield 32, 3) := by decide +kernel
theorem dX0_isWord_41 : decode cX0_isWord 41 = .ok (.iload_n 2, 1) := by decide +kernel
theorem dX0_isWord_42 : decode cX0_isWord 42 = .ok (.iadd, 1) := by decide +kernel
theorem dX0_isWord_43 : decode cX0_isWord 43 = .ok (.invokevirtual 48, 3) := by decide +kernel
theorem dX0_isWord_46 : decode cX0_isWord 46 = .ok (.aload_n 1, 1) := by decide +kernel
theorem dX0_isWord_47 : decode cX0_isWord 47 = .ok (.iload_n 2, 1) := by decide +kernel
theorem dX0_isWord_48 : decode cX0_isWord 48 = .ok (.invokevirtual 142, 3) := by decide +kernel
theorem dX0_isWord_51 : decode cX0_isWord 51 = .ok (.if_icmp .eq 5, 3) := by decide +kernel
theorem dX0_isWord_54 : decode cX0_isWord 54 = .ok (.iconst 0, 1) := by decide +kernel
theorem dX0_isWord_55 : decode cX0_isWord 55 = .ok (.ireturn, 1) := by decide +kernel
theorem dX0_isWord_56 : decode cX0_isWord 56 = .ok (.iinc 2 1, 3) := by decide +kernel
theorem dX0_isWord_59 : decode cX0_isWord 59 = .ok (.goto (-31), 3) := by decide +kernel
theorem dX0_isWord_62 : decode cX0_isWord 62 = .ok (.iconst 1, 1) := by decide +kernel
theorem dX0_isWord_63 : decode cX0_isWord 63 = .ok (.ireturn, 1) := by decide +kernel
theorem dX0_isNumber_0 : decode cX0_isNumber 0 = .ok (.aload_n 0, 1) := by decide +kernel
theorem dX0_isNumber_1 : decode cX0_isNumber 1 = .ok (.getfield 29, 3) := by decide +kernel
theorem dX0_isNumber_4 : decode cX0_isNumber 4 = .ok (.iconst 2, 1) := by decide +kernel
theorem dX0_isNumber_5 : decode cX0_isNumber 5 = .ok (.if_icmp .ne 19, 3) := by decide +kernel
theorem dX0_isNumber_8 : decode cX0_isNumber 8 = .ok (.aload_n 0, 1) := by decide +kernel
theorem dX0_isNumber_9 : decode cX0_isNumber 9 = .ok (.getfield 38, 3) := by decide +kernel
theorem dX0_isNumber_12 : decode cX0_isNumber 12 = .ok (.iload_n 1, 1) := by decide +kernel
theorem dX0_isNumber_13 : decode cX0_isNumber 13 = .ok (.iload_n 2, 1) := by decide +kernel
theorem dX0_isNumber_14 : decode cX0_isNumber 14 = .ok (.invokestatic 146, 3) := by decide +kernel
theorem dX0_isNumber_17 : decode cX0_isNumber 17 = .ok (.ifCond .eq 7, 3) := by decide +kernel
theorem dX0_isNumber_20 : decode cX0_isNumber 20 = .ok (.iconst 1, 1) := by decide +kernel
theorem dX0_isNumber_21 : decode cX0_isNumber 21 = .ok (.goto 4, 3) := by decide +kernel
theorem dX0_isNumber_24 : decode cX0_isNumber 24 = .ok (.iconst 0, 1) := by decide +kernel
theorem dX0_isNumber_25 : decode cX0_isNumber 25 = .ok (.ireturn, 1) := by decide +kernel
theorem dX0_byteAt_0 : decode cX0_byteAt 0 = .ok (.iload_n 1, 1) := by decide +kernel
theorem dX0_byteAt_1 : decode cX0_byteAt 1 = .ok (.ifCond .lt 20, 3) := by decide +kernel
theorem dX0_byteAt_4 : decode cX0_byteAt 4 = .ok (.iload_n 1, 1) := by decide +kernel
theorem dX0_byteAt_5 : decode cX0_byteAt 5 = .ok (.aload_n 0, 1) := by decide +kernel
theorem dX0_byteAt_6 : decode cX0_byteAt 6 = .ok (.getfield 15, 3) := by decide +kernel
theorem dX0_byteAt_9 : decode cX0_byteAt 9 = .ok (.if_icmp .ge 12, 3) := by decide +kernel
theorem dX0_byteAt_12 : decode cX0_byteAt 12 = .ok (.aload_n 0, 1) := by decide +kernel
theorem dX0_byteAt_13 : decode cX0_byteAt 13 = .ok (.getfield 9, 3) := by decide +kernel
theorem dX0_byteAt_16 : decode cX0_byteAt 16 = .ok (.iload_n 1, 1) := by decide +kernel
theorem dX0_byteAt_17 : decode cX0_byteAt 17 = .ok (.iaload, 1) := by decide +kernel
theorem dX0_byteAt_18 : decode cX0_byteAt 18 = .ok (.goto 4, 3) := by decide +kernel
theorem dX0_byteAt_21 : decode cX0_byteAt 21 = .ok (.iconst (-1), 1) := by decide +kernel
theorem dX0_byteAt_22 : decode cX0_byteAt 22 = .ok (.ireturn, 1) := by decide +kernel
theorem dX0_isLetter_0 : decode cX0_isLetter 0 = .ok (.iload_n 0, 1) := by decide +kernel
theorem dX0_isLetter_1 : decode cX0_isLetter 1 = .ok (.bipush 97, 2) := by decide +kernel
theorem dX0_isLetter_3 : decode cX0_isLetter 3 = .ok (.if_icmp .lt 13, 3) := by decide +kernel
theorem dX0_isLetter_6 : decode cX0_isLetter 6 = .ok (.iload_n 0, 1) := by decide +kernel
theorem dX0_isLetter_7 : decode cX0_isLetter 7 = .ok (.bipush 122, 2) := by decide +kernel
theorem dX0_isLetter_9 : decode cX0_isLetter 9 = .ok (.if_icmp .gt 7, 3) := by decide +kernel
theorem dX0_isLetter_12 : decode cX0_isLetter 12 = .ok (.iconst 1, 1) := by decide +kernel
theorem dX0_isLetter_13 : decode cX0_isLetter 13 = .ok (.goto 4, 3) := by decide +kernel
theorem dX0_isLetter_16 : decode cX0_isLetter 16 = .ok (.iconst 0, 1) := by decide +kernel
theorem dX0_isLetter_17 : decode cX0_isLetter 17 = .ok (.ireturn, 1) := by decide +kernel
theorem dX0_isDigit_0 : decode cX0_isDigit 0 = .ok (.iload_n 0, 1) := by decide +kernel
theorem dX0_isDigit_1 : decode cX0_isDigit 1 = .ok (.bipush 48, 2) := by decide +kernel
theorem dX0_isDigit_3 : decode cX0_isDigit 3 = .ok (.if_icmp .lt 13, 3) := by decide +kernel
theorem dX0_isDigit_6 : decode cX0_isDigit 6 = .ok (.iload_n 0, 1) := by decide +kernel
theorem dX0_isDigit_7 : decode cX0_isDigit 7 = .ok (.bipush 57, 2) := by decide +kernel
theorem dX0_isDigit_9 : decode cX0_isDigit 9 = .ok (.if_icmp .gt 7, 3) := by decide +kernel
theorem dX0_isDigit_12 : decode cX0_isDigit 12 = .ok (.iconst 1, 1) := by decide +kernel
theorem dX0_isDigit_13 : decode cX0_isDigit 13 = .ok (.goto 4, 3) := by decide +kernel
theorem dX0_isDigit_16 : decode cX0_isDigit 16 = .ok (.iconst 0, 1) := by decide +kernel
theorem dX0_isDigit_17 : decode cX0_isDigit 17 = .ok (.ireturn, 1) := by decide +kernel
theorem dX1_init_0 : decode cX1_init 0 = .ok (.aload_n 0, 1) := by decide +kernel
theorem dX1_init_1 : decode cX1_init 1 = .ok (.invokespecial 3, 3) := by decide +kernel
theorem dX1_init_4 : decode cX1_init 4 = .ok (.aload_n 0, 1) := by decide +kernel
theorem dX1_init_5 : decode cX1_init 5 = .ok (.iconst 4, 1) := by decide +kernel
theorem dX1_init_6 : decode cX1_init 6 = .ok (.newarray .int, 2) := by decide +kernel
theorem dX1_init_8 : decode cX1_init 8 = .ok (.putfield 9, 3) := by decide +kernel
theorem dX1_init_11 : decode cX1_init 11 = .ok (.aload_n 0, 1) := by decide +kernel
theorem dX1_init_12 : decode cX1_init 12 = .ok (.iconst 0, 1) := by decide +kernel
theorem dX1_init_13 : decode cX1_init 13 = .ok (.putfield 15, 3) := by decide +kernel
theorem dX1_init_16 : decode cX1_init 16 = .ok (.aload_n 0, 1) := by decide +kernel
theorem dX1_init_17 : decode cX1_init 17 = .ok (.iconst 0, 1) := by decide +kernel
theorem dX1_init_18 : decode cX1_init 18 = .ok (.putfield 19, 3) := by decide +kernel
theorem dX1_init_21 : decode cX1_init 21 = .ok (.aload_n 0, 1) := by decide +kernel
theorem dX1_init_22 : decode cX1_init 22 = .ok (.iconst 0, 1) := by decide +kernel
theorem dX1_init_23 : decode cX1_init 23 = .ok (.putfield 22, 3) := by decide +kernel
theorem dX1_init_26 : decode cX1_init 26 = .ok (.aload_n 0, 1) := by decide +kernel
theorem dX1_init_27 : decode cX1_init 27 = .ok (.iconst 0, 1) := by decide +kernel
theorem dX1_init_28 : decode cX1_init 28 = .ok (.putfield 25, 3) := by decide +kernel
theorem dX1_init_31 : decode cX1_init 31 = .ok (.aload_n 0, 1) := by decide +kernel
theorem dX1_init_32 : decode cX1_init 32 = .ok (.iconst 0, 1) := by decide +kernel
theorem dX1_init_33 : decode cX1_init 33 = .ok (.putfield 28, 3) := by decide +kernel
theorem dX1_init_36 : decode cX1_init 36 = .ok (.aload_n 0, 1) := by decide +kernel
theorem dX1_init_37 : decode cX1_init 37 = .ok (.getfield 9, 3) := by decide +kernel
theorem dX1_init_40 : decode cX1_init 40 = .ok (.iconst 0, 1) := by decide +kernel
theorem dX1_init_41 : decode cX1_init 41 = .ok (.bipush 100, 2) := by decide +kernel
theorem dX1_init_43 : decode cX1_init 43 = .ok (.iastore, 1) := by decide +kernel
theorem dX1_init_44 : decode cX1_init 44 = .ok (.aload_n 0, 1) := by decide +kernel
theorem dX1_init_45 : decode cX1_init 45 = .ok (.getfield 9, 3) := by decide +kernel
theorem dX1_init_48 : decode cX1_init 48 = .ok (.iconst 1, 1) := by decide +kernel
theorem dX1_init_49 : decode cX1_init 49 = .ok (.sipush 200, 3) := by decide +kernel
theorem dX1_init_52 : decode cX1_init 52 = .ok (.iastore, 1) := by decide +kernel
theorem dX1_init_53 : decode cX1_init 53 = .ok (.aload_n 0, 1) := by decide +kernel
theorem dX1_init_54 : decode cX1_init 54 = .ok (.getfield 9, 3) := by decide +kernel
theorem dX1_init_57 : decode cX1_init 57 = .ok (.iconst 2, 1) := by decide +kernel
theorem dX1_init_58 : decode cX1_init 58 = .ok (.sipush 200, 3) := by decide +kernel
theorem dX1_init_61 : decode cX1_init 61 = .ok (.iastore, 1) := by decide +kernel
theorem dX1_init_62 : decode cX1_init 62 = .ok (.aload_n 0, 1) := by decide +kernel
theorem dX1_init_63 : decode cX1_init 63 = .ok (.getfield 9, 3) := by decide +kernel
theorem dX1_init_66 : decode cX1_init 66 = .ok (.iconst 3, 1) := by decide +kernel
theorem dX1_init_67 : decode cX1_init 67 = .ok (.sipush 500, 3) := by decide +kernel
theorem dX1_init_70 : decode cX1_init 70 = .ok (.iastore, 1) := by decide +kernel
theorem dX1_init_71 : decode cX1_init 71 = .ok (.return_, 1) := by decide +kernel
theorem dX1_takeFrom_0 : decode cX1_takeFrom 0 = .ok (.aload_n 1, 1) := by decide +kernel
theorem dX1_takeFrom_1 : decode cX1_takeFrom 1 = .ok (.getfield 9, 3) := by decide +kernel
theorem dX1_takeFrom_4 : decode cX1_takeFrom 4 = .ok (.iconst 0, 1) := by decide +kernel
theorem dX1_takeFrom_5 : decode cX1_takeFrom 5 = .ok (.aload_n 0, 1) := by decide +kernel
theorem dX1_takeFrom_6 : decode cX1_takeFrom 6 = .ok (.getfield 9, 3) := by decide +kernel
theorem dX1_takeFrom_9 : decode cX1_takeFrom 9 = .ok (.iconst 0, 1) := by decide +kernel
theorem dX1_takeFrom_10 : decode cX1_takeFrom 10 = .ok (.iconst 4, 1) := by decide +kernel
theorem dX1_takeFrom_11 : decode cX1_takeFrom 11 = .ok (.invokestatic 31, 3) := by decide +kernel
theorem dX1_takeFrom_14 : decode cX1_takeFrom 14 = .ok (.aload_n 0, 1) := by decide +kernel
theorem dX1_takeFrom_15 : decode cX1_takeFrom 15 = .ok (.aload_n 1, 1) := by decide +kernel
theorem dX1_takeFrom_16 : decode cX1_takeFrom 16 = .ok (.getfield 15, 3) := by decide +kernel
theorem dX1_takeFrom_19 : decode cX1_takeFrom 19 = .ok (.putfield 15, 3) := by decide +kernel
theorem dX1_takeFrom_22 : decode cX1_takeFrom 22 = .ok (.aload_n 0, 1) := by decide +kernel
theorem dX1_takeFrom_23 : decode cX1_takeFrom 23 = .ok (.aload_n 1, 1) := by decide +kernel
theorem dX1_takeFrom_24 : decode cX1_takeFrom 24 = .ok (.getfield 19, 3) := by decide +kernel
theorem dX1_takeFrom_27 : decode cX1_takeFrom 27 = .ok (.putfield 19, 3) := by decide +kernel
theorem dX1_takeFrom_30 : decode cX1_takeFrom 30 = .ok (.aload_n 0, 1) := by decide +kernel
theorem dX1_takeFrom_31 : decode cX1_takeFrom 31 = .ok (.aload_n 1, 1) := by decide +kernel
theorem dX1_takeFrom_32 : decode cX1_takeFrom 32 = .ok (.getfield 22, 3) := by decide +kernel
theorem dX1_takeFrom_35 : decode cX1_takeFrom 35 = .ok (.putfield 22, 3) := by decide +kernel
theorem dX1_takeFrom_38 : decode cX1_takeFrom 38 = .ok (.aload_n 0, 1) := by decide +kernel
theorem dX1_takeFrom_39 : decode cX1_takeFrom 39 = .ok (.aload_n 1, 1) := by decide +kernel
theorem dX1_takeFrom_40 : decode cX1_takeFrom 40 = .ok (.getfield 25, 3) := by decide +kernel
theorem dX1_takeFrom_43 : decode cX1_takeFrom 43 = .ok (.putfield 25, 3) := by decide +kernel
theorem dX1_takeFrom_46 : decode cX1_takeFrom 46 = .ok (.aload_n 0, 1) := by decide +kernel
theorem dX1_takeFrom_47 : decode cX1_takeFrom 47 = .ok (.aload_n 1, 1) := by decide +kernel
theorem dX1_takeFrom_48 : decode cX1_takeFrom 48 = .ok (.getfield 28, 3) := by decide +kernel
theorem dX1_takeFrom_51 : decode cX1_takeFrom 51 = .ok (.putfield 28, 3) := by decide +kernel
theorem dX1_takeFrom_54 : decode cX1_takeFrom 54 = .ok (.return_, 1) := by decide +kernel
theorem dX1_total_0 : decode cX1_total 0 = .ok (.aload_n 0, 1) := by decide +kernel
theorem dX1_total_1 : decode cX1_total 1 = .ok (.getfield 9, 3) := by decide +kernel
theorem dX1_total_4 : decode cX1_total 4 = .ok (.invokestatic 37, 3) := by decide +kernel
theorem dX1_total_7 : decode cX1_total 7 = .ok (.ireturn, 1) := by decide +kernel
theorem dX1_faceLasts_0 : decode cX1_faceLasts 0 = .ok (.aload_n 0, 1) := by decide +kernel
theorem dX1_faceLasts_1 : decode cX1_faceLasts 1 = .ok (.getfield 9, 3) := by decide +kernel
theorem dX1_faceLasts_4 : decode cX1_faceLasts 4 = .ok (.iconst 2, 1) := by decide +kernel
theorem dX1_faceLasts_5 : decode cX1_faceLasts 5 = .ok (.iaload, 1) := by decide +kernel
theorem dX1_faceLasts_6 : decode cX1_faceLasts 6 = .ok (.ifCond .ne 7, 3) := by decide +kernel
theorem dX1_faceLasts_9 : decode cX1_faceLasts 9 = .ok (.iconst 0, 1) := by decide +kernel
theorem dX1_faceLasts_10 : decode cX1_faceLasts 10 = .ok (.goto 23, 3) := by decide +kernel
theorem dX1_faceLasts_13 : decode cX1_faceLasts 13 = .ok (.aload_n 0, 1) := by decide +kernel
theorem dX1_faceLasts_14 : decode cX1_faceLasts 14 = .ok (.getfield 9, 3) := by decide +kernel
theorem dX1_faceLasts_17 : decode cX1_faceLasts 17 = .ok (.iconst 0, 1) := by decide +kernel
theorem dX1_faceLasts_18 : decode cX1_faceLasts 18 = .ok (.iaload, 1) := by decide +kernel
theorem dX1_faceLasts_19 : decode cX1_faceLasts 19 = .ok (.aload_n 0, 1) := by decide +kernel
theorem dX1_faceLasts_20 : decode cX1_faceLasts 20 = .ok (.getfield 9, 3) := by decide +kernel
theorem dX1_faceLasts_23 : decode cX1_faceLasts 23 = .ok (.iconst 1, 1) := by decide +kernel
theorem dX1_faceLasts_24 : decode cX1_faceLasts 24 = .ok (.iaload, 1) := by decide +kernel
theorem dX1_faceLasts_25 : decode cX1_faceLasts 25 = .ok (.iadd, 1) := by decide +kernel
theorem dX1_faceLasts_26 : decode cX1_faceLasts 26 = .ok (.aload_n 0, 1) := by decide +kernel
theorem dX1_faceLasts_27 : decode cX1_faceLasts 27 = .ok (.getfield 9, 3) := by decide +kernel
theorem dX1_faceLasts_30 : decode cX1_faceLasts 30 = .ok (.iconst 2, 1) := by decide +kernel
theorem dX1_faceLasts_31 : decode cX1_faceLasts 31 = .ok (.iaload, 1) := by decide +kernel
theorem dX1_faceLasts_32 : decode cX1_faceLasts 32 = .ok (.iadd, 1) := by decide +kernel
theorem dX1_faceLasts_33 : decode cX1_faceLasts 33 = .ok (.ireturn, 1) := by decide +kernel
theorem dX1_melt_0 : decode cX1_melt 0 = .ok (.iload_n 1, 1) := by decide +kernel
theorem dX1_melt_1 : decode cX1_melt 1 = .ok (.istore_n 2, 1) := by decide +kernel
theorem dX1_melt_2 : decode cX1_melt 2 = .ok (.iconst 0, 1) := by decide +kernel
theorem dX1_melt_3 : decode cX1_melt 3 = .ok (.istore_n 3, 1) := by decide +kernel
theorem dX1_melt_4 : decode cX1_melt 4 = .ok (.iload_n 3, 1) := by decide +kernel
theorem dX1_melt_5 : decode cX1_melt 5 = .ok (.iconst 4, 1) := by decide +kernel
theorem dX1_melt_6 : decode cX1_melt 6 = .ok (.if_icmp .ge 37, 3) := by decide +kernel
theorem dX1_melt_9 : decode cX1_melt 9 = .ok (.iload_n 2, 1) := by decide +kernel
theorem dX1_melt_10 : decode cX1_melt 10 = .ok (.aload_n 0, 1) := by decide +kernel
theorem dX1_melt_11 : decode cX1_melt 11 = .ok (.getfield 9, 3) := by decide +kernel
theorem dX1_melt_14 : decode cX1_melt 14 = .ok (.iload_n 3, 1) := by decide +kernel
theorem dX1_melt_15 : decode cX1_melt 15 = .ok (.iaload, 1) := by decide +kernel
theorem dX1_melt_16 : decode cX1_melt 16 = .ok (.invokestatic 41, 3) := by decide +kernel
theorem dX1_melt_19 : decode cX1_melt 19 = .ok (.istore 4, 2) := by decide +kernel
theorem dX1_melt_21 : decode cX1_melt 21 = .ok (.aload_n 0, 1) := by decide +kernel
theorem dX1_melt_22 : decode cX1_melt 22 = .ok (.getfield 9, 3) := by decide +kernel
theorem dX1_melt_25 : decode cX1_melt 25 = .ok (.iload_n 3, 1) := by decide +kernel
theorem dX1_melt_26 : decode cX1_melt 26 = .ok (.dup2, 1) := by decide +kernel
theorem dX1_melt_27 : decode cX1_melt 27 = .ok (.iaload, 1) := by decide +kernel
theorem dX1_melt_28 : decode cX1_melt 28 = .ok (.iload 4, 2) := by decide +kernel
theorem dX1_melt_30 : decode cX1_melt 30 = .ok (.isub, 1) := by decide +kernel
theorem dX1_melt_31 : decode cX1_melt 31 = .ok (.iastore, 1) := by decide +kernel
theorem dX1_melt_32 : decode cX1_melt 32 = .ok (.iload_n 2, 1) := by decide +kernel
theorem dX1_melt_33 : decode cX1_melt 33 = .ok (.iload 4, 2) := by decide +kernel
theorem dX1_melt_35 : decode cX1_melt 35 = .ok (.isub, 1) := by decide +kernel
theorem dX1_melt_36 : decode cX1_melt 36 = .ok (.istore_n 2, 1) := by decide +kernel
theorem dX1_melt_37 : decode cX1_melt 37 = .ok (.iinc 3 1, 3) := by decide +kernel
theorem dX1_melt_40 : decode cX1_melt 40 = .ok (.goto (-36), 3) := by decide +kernel
theorem dX1_melt_43 : decode cX1_melt 43 = .ok (.aload_n 0, 1) := by decide +kernel
theorem dX1_melt_44 : decode cX1_melt 44 = .ok (.dup, 1) := by decide +kernel
theorem dX1_melt_45 : decode cX1_melt 45 = .ok (.getfield 28, 3) := by decide +kernel
theorem dX1_melt_48 : decode cX1_melt 48 = .ok (.iload_n 1, 1) := by decide +kernel
theorem dX1_melt_49 : decode cX1_melt 49 = .ok (.iload_n 2, 1) := by decide +kernel
theorem dX1_melt_50 : decode cX1_melt 50 = .ok (.isub, 1) := by decide +kernel
theorem dX1_melt_51 : decode cX1_melt 51 = .ok (.iadd, 1) := by decide +kernel
theorem dX1_melt_52 : decode cX1_melt 52 = .ok (.putfield 28, 3) := by decide +kernel
theorem dX1_melt_55 : decode cX1_melt 55 = .ok (.iload_n 1, 1) := by decide +kernel
theorem dX1_melt_56 : decode cX1_melt 56 = .ok (.iload_n 2, 1) := by decide +kernel
theorem dX1_melt_57 : decode cX1_melt 57 = .ok (.isub, 1) := by decide +kernel
theorem dX1_melt_58 : decode cX1_melt 58 = .ok (.ireturn, 1) := by decide +kernel
theorem dX1_beginDay_0 : decode cX1_beginDay 0 = .ok (.aload_n 0, 1) := by decide +kernel
theorem dX1_beginDay_1 : decode cX1_beginDay 1 = .ok (.iconst 0, 1) := by decide +kernel
theorem dX1_beginDay_2 : decode cX1_beginDay 2 = .ok (.putfield 22, 3) := by decide +kernel
theorem dX1_beginDay_5 : decode cX1_beginDay 5 = .ok (.aload_n 0, 1) := by decide +kernel
theorem dX1_beginDay_6 : decode cX1_beginDay 6 = .ok (.iconst 0, 1) := by decide +kernel
theorem dX1_beginDay_7 : decode cX1_beginDay 7 = .ok (.putfield 25, 3) := by decide +kernel
theorem dX1_beginDay_10 : decode cX1_beginDay 10 = .ok (.aload_n 0, 1) := by decide +kernel
theorem dX1_beginDay_11 : decode cX1_beginDay 11 = .ok (.iconst 0, 1) := by decide +kernel
theorem dX1_beginDay_12 : decode cX1_beginDay 12 = .ok (.putfield 19, 3) := by decide +kernel
theorem dX1_beginDay_15 : decode cX1_beginDay 15 = .ok (.return_, 1) := by decide +kernel
theorem dX1_remake_0 : decode cX1_remake 0 = .ok (.aload_n 0, 1) := by decide +kernel
theorem dX1_remake_1 : decode cX1_remake 1 = .ok (.invokevirtual 47, 3) := by decide +kernel
theorem dX1_remake_4 : decode cX1_remake 4 = .ok (.istore_n 1, 1) := by decide +kernel
theorem dX1_remake_5 : decode cX1_remake 5 = .ok (.aload_n 0, 1) := by decide +kernel
theorem dX1_remake_6 : decode cX1_remake 6 = .ok (.getfield 9, 3) := by decide +kernel
theorem dX1_remake_9 : decode cX1_remake 9 = .ok (.iconst 0, 1) := by decide +kernel
theorem dX1_remake_10 : decode cX1_remake 10 = .ok (.iload_n 1, 1) := by decide +kernel
theorem dX1_remake_11 : decode cX1_remake 11 = .ok (.bipush 10, 2) := by decide +kernel
theorem dX1_remake_13 : decode cX1_remake 13 = .ok (.idiv, 1) := by decide +kernel
theorem dX1_remake_14 : decode cX1_remake 14 = .ok (.iastore, 1) := by decide +kernel
theorem dX1_remake_15 : decode cX1_remake 15 = .ok (.aload_n 0, 1) := by decide +kernel
theorem dX1_remake_16 : decode cX1_remake 16 = .ok (.getfield 9, 3) := by decide +kernel
theorem dX1_remake_19 : decode cX1_remake 19 = .ok (.iconst 1, 1) := by decide +kernel
theorem dX1_remake_20 : decode cX1_remake 20 = .ok (.iload_n 1, 1) := by decide +kernel
theorem dX1_remake_21 : decode cX1_remake 21 = .ok (.iconst 2, 1) := by decide +kernel
theorem dX1_remake_22 : decode cX1_remake 22 = .ok (.imul, 1) := by decide +kernel
theorem dX1_remake_23 : decode cX1_remake 23 = .ok (.bipush 10, 2) := by decide +kernel
theorem dX1_remake_25 : decode cX1_remake 25 = .ok (.idiv, 1) := by decide +kernel
theorem dX1_remake_26 : decode cX1_remake 26 = .ok (.iastore, 1) := by decide +kernel
theorem dX1_remake_27 : decode cX1_remake 27 = .ok (.aload_n 0, 1) := by decide +kernel
theorem dX1_remake_28 : decode cX1_remake 28 = .ok (.getfield 9, 3) := by decide +kernel
theorem dX1_remake_31 : decode cX1_remake 31 = .ok (.iconst 2, 1) := by decide +kernel
theorem dX1_remake_32 : decode cX1_remake 32 = .ok (.iload_n 1, 1) := by decide +kernel
theorem dX1_remake_33 : decode cX1_remake 33 = .ok (.iconst 2, 1) := by decide +kernel
theorem dX1_remake_34 : decode cX1_remake 34 = .ok (.imul, 1) := by decide +kernel
theorem dX1_remake_35 : decode cX1_remake 35 = .ok (.bipush 10, 2) := by decide +kernel
theorem dX1_remake_37 : decode cX1_remake 37 = .ok (.idiv, 1) := by decide +kernel
theorem dX1_remake_38 : decode cX1_remake 38 = .ok (.iastore, 1) := by decide +kernel
theorem dX1_remake_39 : decode cX1_remake 39 = .ok (.aload_n 0, 1) := by decide +kernel
theorem dX1_remake_40 : decode cX1_remake 40 = .ok (.getfield 9, 3) := by decide +kernel
theorem dX1_remake_43 : decode cX1_remake 43 = .ok (.iconst 3, 1) := by decide +kernel
theorem dX1_remake_44 : decode cX1_remake 44 = .ok (.iload_n 1, 1) := by decide +kernel
theorem dX1_remake_45 : decode cX1_remake 45 = .ok (.aload_n 0, 1) := by decide +kernel
theorem dX1_remake_46 : decode cX1_remake 46 = .ok (.getfield 9, 3) := by decide +kernel
theorem dX1_remake_49 : decode cX1_remake 49 = .ok (.iconst 0, 1) := by decide +kernel
theorem dX1_remake_50 : decode cX1_remake 50 = .ok (.iaload, 1) := by decide +kernel
theorem dX1_remake_51 : decode cX1_remake 51 = .ok (.isub, 1) := by decide +kernel
theorem dX1_remake_52 : decode cX1_remake 52 = .ok (.aload_n 0, 1) := by decide +kernel
theorem dX1_remake_53 : decode cX1_remake 53 = .ok (.getfield 9, 3) := by decide +kernel
theorem dX1_remake_56 : decode cX1_remake 56 = .ok (.iconst 1, 1) := by decide +kernel
theorem dX1_remake_57 : decode cX1_remake 57 = .ok (.iaload, 1) := by decide +kernel
theorem dX1_remake_58 : decode cX1_remake 58 = .ok (.isub, 1) := by decide +kernel
theorem dX1_remake_59 : decode cX1_remake 59 = .ok (.aload_n 0, 1) := by decide +kernel
theorem dX1_remake_60 : decode cX1_remake 60 = .ok (.getfield 9, 3) := by decide +kernel
theorem dX1_remake_63 : decode cX1_remake 63 = .ok (.iconst 2, 1) := by decide +kernel
theorem dX1_remake_64 : decode cX1_remake 64 = .ok (.iaload, 1) := by decide +kernel
theorem dX1_remake_65 : decode cX1_remake 65 = .ok (.isub, 1) := by decide +kernel
theorem dX1_remake_66 : decode cX1_remake 66 = .ok (.iastore, 1) := by decide +kernel
theorem dX1_remake_67 : decode cX1_remake 67 = .ok (.return_, 1) := by decide +kernel
theorem dX2_init_0 : decode cX2_init 0 = .ok (.aload_n 0, 1) := by decide +kernel
theorem dX2_init_1 : decode cX2_init 1 = .ok (.invokespecial 3, 3) := by decide +kernel
theorem dX2_init_4 : decode cX2_init 4 = .ok (.aload_n 0, 1) := by decide +kernel
theorem dX2_init_5 : decode cX2_init 5 = .ok (.new 9, 3) := by decide +kernel
theorem dX2_init_8 : decode cX2_init 8 = .ok (.dup, 1) := by decide +kernel
theorem dX2_init_9 : decode cX2_init 9 = .ok (.invokespecial 11, 3) := by decide +kernel
theorem dX2_init_12 : decode cX2_init 12 = .ok (.putfield 12, 3) := by decide +kernel
theorem dX2_init_15 : decode cX2_init 15 = .ok (.aload_n 0, 1) := by decide +kernel
theorem dX2_init_16 : decode cX2_init 16 = .ok (.new 18, 3) := by decide +kernel
theorem dX2_init_19 : decode cX2_init 19 = .ok (.dup, 1) := by decide +kernel
theorem dX2_init_20 : decode cX2_init 20 = .ok (.invokespecial 20, 3) := by decide +kernel
theorem dX2_init_23 : decode cX2_init 23 = .ok (.putfield 21, 3) := by decide +kernel
theorem dX2_init_26 : decode cX2_init 26 = .ok (.aload_n 0, 1) := by decide +kernel
theorem dX2_init_27 : decode cX2_init 27 = .ok (.bipush 10, 2) := by decide +kernel
theorem dX2_init_29 : decode cX2_init 29 = .ok (.newarray .int, 2) := by decide +kernel
theorem dX2_init_31 : decode cX2_init 31 = .ok (.putfield 25, 3) := by decide +kernel
theorem dX2_init_34 : decode cX2_init 34 = .ok (.aload_n 0, 1) := by decide +kernel
theorem dX2_init_35 : decode cX2_init 35 = .ok (.iconst 1, 1) := by decide +kernel
theorem dX2_init_36 : decode cX2_init 36 = .ok (.putfield 29, 3) := by decide +kernel
theorem dX2_init_39 : decode cX2_init 39 = .ok (.iconst 0, 1) := by decide +kernel
theorem dX2_init_40 : decode cX2_init 40 = .ok (.istore_n 1, 1) := by decide +kernel
theorem dX2_init_41 : decode cX2_init 41 = .ok (.iload_n 1, 1) := by decide +kernel
theorem dX2_init_42 : decode cX2_init 42 = .ok (.bipush 10, 2) := by decide +kernel
theorem dX2_init_44 : decode cX2_init 44 = .ok (.if_icmp .ge 16, 3) := by decide +kernel
theorem dX2_init_47 : decode cX2_init 47 = .ok (.aload_n 0, 1) := by decide +kernel
theorem dX2_init_48 : decode cX2_init 48 = .ok (.getfield 25, 3) := by decide +kernel
theorem dX2_init_51 : decode cX2_init 51 = .ok (.iload_n 1, 1) := by decide +kernel
theorem dX2_init_52 : decode cX2_init 52 = .ok (.iconst (-1), 1) := by decide +kernel
theorem dX2_init_53 : decode cX2_init 53 = .ok (.iastore, 1) := by decide +kernel
theorem dX2_init_54 : decode cX2_init 54 = .ok (.iinc 1 1, 3) := by decide +kernel
theorem dX2_init_57 : decode cX2_init 57 = .ok (.goto (-16), 3) := by decide +kernel
theorem dX2_init_60 : decode cX2_init 60 = .ok (.return_, 1) := by decide +kernel
theorem dX2_takeFrom_0 : decode cX2_takeFrom 0 = .ok (.aload_n 0, 1) := by decide +kernel
theorem dX2_takeFrom_1 : decode cX2_takeFrom 1 = .ok (.getfield 12, 3) := by decide +kernel
theorem dX2_takeFrom_4 : decode cX2_takeFrom 4 = .ok (.aload_n 1, 1) := by decide +kernel
theorem dX2_takeFrom_5 : decode cX2_takeFrom 5 = .ok (.getfield 12, 3) := by decide +kernel
theorem dX2_takeFrom_8 : decode cX2_takeFrom 8 = .ok (.invokevirtual 33, 3) := by decide +kernel
theorem dX2_takeFrom_11 : decode cX2_takeFrom 11 = .ok (.aload_n 0, 1) := by decide +kernel
theorem dX2_takeFrom_12 : decode cX2_takeFrom 12 = .ok (.getfield 21, 3) := by decide +kernel
theorem dX2_takeFrom_15 : decode cX2_takeFrom 15 = .ok (.aload_n 1, 1) := by decide +kernel
theorem dX2_takeFrom_16 : decode cX2_takeFrom 16 = .ok (.getfield 21, 3) := by decide +kernel
theorem dX2_takeFrom_19 : decode cX2_takeFrom 19 = .ok (.invokevirtual 37, 3) := by decide +kernel
theorem dX2_takeFrom_22 : decode cX2_takeFrom 22 = .ok (.aload_n 1, 1) := by decide +kernel
theorem dX2_takeFrom_23 : decode cX2_takeFrom 23 = .ok (.getfield 25, 3) := by decide +kernel
theorem dX2_takeFrom_26 : decode cX2_takeFrom 26 = .ok (.iconst 0, 1) := by decide +kernel
theorem dX2_takeFrom_27 : decode cX2_takeFrom 27 = .ok (.aload_n 0, 1) := by decide +kernel
theorem dX2_takeFrom_28 : decode cX2_takeFrom 28 = .ok (.getfield 25, 3) := by decide +kernel
theorem dX2_takeFrom_31 : decode cX2_takeFrom 31 = .ok (.iconst 0, 1) := by decide +kernel
theorem dX2_takeFrom_32 : decode cX2_takeFrom 32 = .ok (.bipush 10, 2) := by decide +kernel
theorem dX2_takeFrom_34 : decode cX2_takeFrom 34 = .ok (.invokestatic 40, 3) := by decide +kernel
theorem dX2_takeFrom_37 : decode cX2_takeFrom 37 = .ok (.aload_n 0, 1) := by decide +kernel
theorem dX2_takeFrom_38 : decode cX2_takeFrom 38 = .ok (.aload_n 1, 1) := by decide +kernel
theorem dX2_takeFrom_39 : decode cX2_takeFrom 39 = .ok (.getfield 29, 3) := by decide +kernel
theorem dX2_takeFrom_42 : decode cX2_takeFrom 42 = .ok (.putfield 29, 3) := by decide +kernel
theorem dX2_takeFrom_45 : decode cX2_takeFrom 45 = .ok (.return_, 1) := by decide +kernel
theorem dX2_draw_0 : decode cX2_draw 0 = .ok (.aload_n 0, 1) := by decide +kernel
theorem dX2_draw_1 : decode cX2_draw 1 = .ok (.aload_n 0, 1) := by decide +kernel
theorem dX2_draw_2 : decode cX2_draw 2 = .ok (.getfield 29, 3) := by decide +kernel
theorem dX2_draw_5 : decode cX2_draw 5 = .ok (.ldc 46, 2) := by decide +kernel
theorem dX2_draw_7 : decode cX2_draw 7 = .ok (.imul, 1) := by decide +kernel
theorem dX2_draw_8 : decode cX2_draw 8 = .ok (.sipush 12345, 3) := by decide +kernel
theorem dX2_draw_11 : decode cX2_draw 11 = .ok (.iadd, 1) := by decide +kernel
theorem dX2_draw_12 : decode cX2_draw 12 = .ok (.putfield 29, 3) := by decide +kernel
theorem dX2_draw_15 : decode cX2_draw 15 = .ok (.aload_n 0, 1) := by decide +kernel
theorem dX2_draw_16 : decode cX2_draw 16 = .ok (.getfield 29, 3) := by decide +kernel
theorem dX2_draw_19 : decode cX2_draw 19 = .ok (.bipush 8, 2) := by decide +kernel
theorem dX2_draw_21 : decode cX2_draw 21 = .ok (.iushr, 1) := by decide +kernel
theorem dX2_draw_22 : decode cX2_draw 22 = .ok (.ireturn, 1) := by decide +kernel
theorem dX2_drawNeighbour_0 : decode cX2_drawNeighbour 0 = .ok (.aload_n 0, 1) := by decide +kernel
theorem dX2_drawNeighbour_1 : decode cX2_drawNeighbour 1 = .ok (.getfield 12, 3) := by decide +kernel
theorem dX2_drawNeighbour_4 : decode cX2_drawNeighbour 4 = .ok (.aload_n 0, 1) := by decide +kernel
theorem dX2_drawNeighbour_5 : decode cX2_drawNeighbour 5 = .ok (.getfield 21, 3) := by decide +kernel
theorem dX2_drawNeighbour_8 : decode cX2_drawNeighbour 8 = .ok (.getfield 47, 3) := by decide +kernel
theorem dX2_drawNeighbour_11 : decode cX2_drawNeighbour 11 = .ok (.invokevirtual 50, 3) := by decide +kernel
theorem dX2_drawNeighbour_14 : decode cX2_drawNeighbour 14 = .ok (.istore_n 1, 1) := by decide +kernel
theorem dX2_drawNeighbour_15 : decode cX2_drawNeighbour 15 = .ok (.iload_n 1, 1) := by decide +kernel
theorem dX2_drawNeighbour_16 : decode cX2_drawNeighbour 16 = .ok (.invokestatic 54, 3) := by decide +kernel
theorem dX2_drawNeighbour_19 : decode cX2_drawNeighbour 19 = .ok (.istore_n 2, 1) := by decide +kernel
theorem dX2_drawNeighbour_20 : decode cX2_drawNeighbour 20 = .ok (.iload_n 2, 1) := by decide +kernel
theorem dX2_drawNeighbour_21 : decode cX2_drawNeighbour 21 = .ok (.ifCond .ne 5, 3) := by decide +kernel
theorem dX2_drawNeighbour_24 : decode cX2_drawNeighbour 24 = .ok (.iconst (-1), 1) := by decide +kernel
theorem dX2_drawNeighbour_25 : decode cX2_drawNeighbour 25 = .ok (.ireturn, 1) := by decide +kernel
theorem dX2_drawNeighbour_26 : decode cX2_drawNeighbour 26 = .ok (.aload_n 0, 1) := by decide +kernel
theorem dX2_drawNeighbour_27 : decode cX2_drawNeighbour 27 = .ok (.invokevirtual 59, 3) := by decide +kernel
theorem dX2_drawNeighbour_30 : decode cX2_drawNeighbour 30 = .ok (.iload_n 2, 1) := by decide +kernel
theorem dX2_drawNeighbour_31 : decode cX2_drawNeighbour 31 = .ok (.irem, 1) := by decide +kernel
theorem dX2_drawNeighbour_32 : decode cX2_drawNeighbour 32 = .ok (.istore_n 3, 1) := by decide +kernel
theorem dX2_drawNeighbour_33 : decode cX2_drawNeighbour 33 = .ok (.iconst 0, 1) := by decide +kernel
theorem dX2_drawNeighbour_34 : decode cX2_drawNeighbour 34 = .ok (.istore 4, 2) := by decide +kernel
theorem dX2_drawNeighbour_36 : decode cX2_drawNeighbour 36 = .ok (.iload 4, 2) := by decide +kernel
theorem dX2_drawNeighbour_38 : decode cX2_drawNeighbour 38 = .ok (.bipush 8, 2) := by decide +kernel
theorem dX2_drawNeighbour_40 : decode cX2_drawNeighbour 40 = .ok (.if_icmp .ge 28, 3) := by decide +kernel
theorem dX2_drawNeighbour_43 : decode cX2_drawNeighbour 43 = .ok (.iload_n 1, 1) := by decide +kernel
theorem dX2_drawNeighbour_44 : decode cX2_drawNeighbour 44 = .ok (.iload 4, 2) := by decide +kernel
theorem dX2_drawNeighbour_46 : decode cX2_drawNeighbour 46 = .ok (.invokestatic 63, 3) := by decide +kernel
theorem dX2_drawNeighbour_49 : decode cX2_drawNeighbour 49 = .ok (.ifCond .eq 13, 3) := by decide +kernel
theorem dX2_drawNeighbour_52 : decode cX2_drawNeighbour 52 = .ok (.iload_n 3, 1) := by decide +kernel
theorem dX2_drawNeighbour_53 : decode cX2_drawNeighbour 53 = .ok (.ifCond .ne 6, 3) := by decide +kernel
theorem dX2_drawNeighbour_56 : decode cX2_drawNeighbour 56 = .ok (.iload 4, 2) := by decide +kernel
theorem dX2_drawNeighbour_58 : decode cX2_drawNeighbour 58 = .ok (.ireturn, 1) := by decide +kernel
theorem dX2_drawNeighbour_59 : decode cX2_drawNeighbour 59 = .ok (.iinc 3 (-1), 3) := by decide +kernel
theorem dX2_drawNeighbour_62 : decode cX2_drawNeighbour 62 = .ok (.iinc 4 1, 3) := by decide +kernel
theorem dX2_drawNeighbour_65 : decode cX2_drawNeighbour 65 = .ok (.goto (-29), 3) := by decide +kernel
theorem dX2_drawNeighbour_68 : decode cX2_drawNeighbour 68 = .ok (.iconst (-1), 1) := by decide +kernel
theorem dX2_drawNeighbour_69 : decode cX2_drawNeighbour 69 = .ok (.ireturn, 1) := by decide +kernel
theorem dX2_isTooLate_0 : decode cX2_isTooLate 0 = .ok (.aload_n 0, 1) := by decide +kernel
theorem dX2_isTooLate_1 : decode cX2_isTooLate 1 = .ok (.getfield 21, 3) := by decide +kernel
theorem dX2_isTooLate_4 : decode cX2_isTooLate 4 = .ok (.getfield 67, 3) := by decide +kernel
theorem dX2_isTooLate_7 : decode cX2_isTooLate 7 = .ok (.aload_n 0, 1) := by decide +kernel
theorem dX2_isTooLate_8 : decode cX2_isTooLate 8 = .ok (.getfield 12, 3) := by decide +kernel
theorem dX2_isTooLate_11 : decode cX2_isTooLate 11 = .ok (.getfield 70, 3) := by decide +kernel
theorem dX2_isTooLate_14 : decode cX2_isTooLate 14 = .ok (.iload_n 1, 1) := by decide +kernel
theorem dX2_isTooLate_15 : decode cX2_isTooLate 15 = .ok (.aaload, 1) := by decide +kernel
theorem dX2_isTooLate_16 : decode cX2_isTooLate 16 = .ok (.invokevirtual 74, 3) := by decide +kernel
theorem dX2_isTooLate_19 : decode cX2_isTooLate 19 = .ok (.iadd, 1) := by decide +kernel
theorem dX2_isTooLate_20 : decode cX2_isTooLate 20 = .ok (.sipush 999, 3) := by decide +kernel
theorem dX2_isTooLate_23 : decode cX2_isTooLate 23 = .ok (.if_icmp .le 7, 3) := by decide +kernel
theorem dX2_isTooLate_26 : decode cX2_isTooLate 26 = .ok (.iconst 1, 1) := by decide +kernel
theorem dX2_isTooLate_27 : decode cX2_isTooLate 27 = .ok (.goto 4, 3) := by decide +kernel
theorem dX2_isTooLate_30 : decode cX2_isTooLate 30 = .ok (.iconst 0, 1) := by decide +kernel
theorem dX2_isTooLate_31 : decode cX2_isTooLate 31 = .ok (.ireturn, 1) := by decide +kernel
theorem dX2_carryAlong_0 : decode cX2_carryAlong 0 = .ok (.aload_n 0, 1) := by decide +kernel
theorem dX2_carryAlong_1 : decode cX2_carryAlong 1 = .ok (.getfield 21, 3) := by decide +kernel
theorem dX2_carryAlong_4 : decode cX2_carryAlong 4 = .ok (.aload_n 0, 1) := by decide +kernel
theorem dX2_carryAlong_5 : decode cX2_carryAlong 5 = .ok (.getfield 12, 3) := by decide +kernel
theorem dX2_carryAlong_8 : decode cX2_carryAlong 8 = .ok (.iload_n 1, 1) := by decide +kernel
theorem dX2_carryAlong_9 : decode cX2_carryAlong 9 = .ok (.aload_n 0, 1) := by decide +kernel
theorem dX2_carryAlong_10 : decode cX2_carryAlong 10 = .ok (.getfield 21, 3) := by decide +kernel
theorem dX2_carryAlong_13 : decode cX2_carryAlong 13 = .ok (.getfield 67, 3) := by decide +kernel
theorem dX2_carryAlong_16 : decode cX2_carryAlong 16 = .ok (.aload_n 0, 1) := by decide +kernel
theorem dX2_carryAlong_17 : decode cX2_carryAlong 17 = .ok (.getfield 21, 3) := by decide +kernel
theorem dX2_carryAlong_20 : decode cX2_carryAlong 20 = .ok (.getfield 79, 3) := by decide +kernel
theorem dX2_carryAlong_23 : decode cX2_carryAlong 23 = .ok (.invokevirtual 82, 3) := by decide +kernel
theorem dX2_carryAlong_26 : decode cX2_carryAlong 26 = .ok (.invokevirtual 86, 3) := by decide +kernel
theorem dX2_carryAlong_29 : decode cX2_carryAlong 29 = .ok (.istore_n 3, 1) := by decide +kernel
theorem dX2_carryAlong_30 : decode cX2_carryAlong 30 = .ok (.aload_n 0, 1) := by decide +kernel
theorem dX2_carryAlong_31 : decode cX2_carryAlong 31 = .ok (.getfield 21, 3) := by decide +kernel
theorem dX2_carryAlong_34 : decode cX2_carryAlong 34 = .ok (.dup, 1) := by decide +kernel
theorem dX2_carryAlong_35 : decode cX2_carryAlong 35 = .ok (.getfield 67, 3) := by decide +kernel
theorem dX2_carryAlong_38 : decode cX2_carryAlong 38 = .ok (.aload_n 0, 1) := by decide +kernel
theorem dX2_carryAlong_39 : decode cX2_carryAlong 39 = .ok (.getfield 12, 3) := by decide +kernel
theorem dX2_carryAlong_42 : decode cX2_carryAlong 42 = .ok (.getfield 70, 3) := by decide +kernel
theorem dX2_carryAlong_45 : decode cX2_carryAlong 45 = .ok (.iload_n 1, 1) := by decide +kernel
theorem dX2_carryAlong_46 : decode cX2_carryAlong 46 = .ok (.aaload, 1) := by decide +kernel
theorem dX2_carryAlong_47 : decode cX2_carryAlong 47 = .ok (.invokevirtual 74, 3) := by decide +kernel
theorem dX2_carryAlong_50 : decode cX2_carryAlong 50 = .ok (.iadd, 1) := by decide +kernel
theorem dX2_carryAlong_51 : decode cX2_carryAlong 51 = .ok (.putfield 67, 3) := by decide +kernel
theorem dX2_carryAlong_54 : decode cX2_carryAlong 54 = .ok (.aload_n 0, 1) := by decide +kernel
theorem dX2_carryAlong_55 : decode cX2_carryAlong 55 = .ok (.getfield 21, 3) := by decide +kernel
theorem dX2_carryAlong_58 : decode cX2_carryAlong 58 = .ok (.iload_n 2, 1) := by decide +kernel
theorem dX2_carryAlong_59 : decode cX2_carryAlong 59 = .ok (.putfield 47, 3) := by decide +kernel
theorem dX2_carryAlong_62 : decode cX2_carryAlong 62 = .ok (.aload_n 0, 1) := by decide +kernel
theorem dX2_carryAlong_63 : decode cX2_carryAlong 63 = .ok (.getfield 21, 3) := by decide +kernel
theorem dX2_carryAlong_66 : decode cX2_carryAlong 66 = .ok (.getfield 89, 3) := by decide +kernel
theorem dX2_carryAlong_69 : decode cX2_carryAlong 69 = .ok (.iconst 2, 1) := by decide +kernel
theorem dX2_carryAlong_70 : decode cX2_carryAlong 70 = .ok (.iaload, 1) := by decide +kernel
theorem dX2_carryAlong_71 : decode cX2_carryAlong 71 = .ok (.ifCond .le 26, 3) := by decide +kernel
theorem dX2_carryAlong_74 : decode cX2_carryAlong 74 = .ok (.aload_n 0, 1) := by decide +kernel
theorem dX2_carryAlong_75 : decode cX2_carryAlong 75 = .ok (.getfield 21, 3) := by decide +kernel
theorem dX2_carryAlong_78 : decode cX2_carryAlong 78 = .ok (.dup, 1) := by decide +kernel
theorem dX2_carryAlong_79 : decode cX2_carryAlong 79 = .ok (.getfield 92, 3) := by decide +kernel
theorem dX2_carryAlong_82 : decode cX2_carryAlong 82 = .ok (.iconst 1, 1) := by decide +kernel
theorem dX2_carryAlong_83 : decode cX2_carryAlong 83 = .ok (.aload_n 0, 1) := by decide +kernel
theorem dX2_carryAlong_84 : decode cX2_carryAlong 84 = .ok (.getfield 12, 3) := by decide +kernel
theorem dX2_carryAlong_87 : decode cX2_carryAlong 87 = .ok (.getfield 95, 3) := by decide +kernel
theorem dX2_carryAlong_90 : decode cX2_carryAlong 90 = .ok (.iload_n 2, 1) := by decide +kernel
theorem dX2_carryAlong_91 : decode cX2_carryAlong 91 = .ok (.iaload, 1) := by decide +kernel
theorem dX2_carryAlong_92 : decode cX2_carryAlong 92 = .ok (.ishl, 1) := by decide +kernel
theorem dX2_carryAlong_93 : decode cX2_carryAlong 93 = .ok (.ior, 1) := by decide +kernel
theorem dX2_carryAlong_94 : decode cX2_carryAlong 94 = .ok (.putfield 92, 3) := by decide +kernel
theorem dX2_carryAlong_97 : decode cX2_carryAlong 97 = .ok (.iload_n 3, 1) := by decide +kernel
theorem dX2_carryAlong_98 : decode cX2_carryAlong 98 = .ok (.ireturn, 1) := by decide +kernel
theorem dX2_spotsHeld_0 : decode cX2_spotsHeld 0 = .ok (.iconst 0, 1) := by decide +kernel
theorem dX2_spotsHeld_1 : decode cX2_spotsHeld 1 = .ok (.istore_n 1, 1) := by decide +kernel
theorem dX2_spotsHeld_2 : decode cX2_spotsHeld 2 = .ok (.aload_n 0, 1) := by decide +kernel
theorem dX2_spotsHeld_3 : decode cX2_spotsHeld 3 = .ok (.getfield 25, 3) := by decide +kernel
theorem dX2_spotsHeld_6 : decode cX2_spotsHeld 6 = .ok (.astore_n 2, 1) := by decide +kernel
theorem dX2_spotsHeld_7 : decode cX2_spotsHeld 7 = .ok (.aload_n 2, 1) := by decide +kernel
theorem dX2_spotsHeld_8 : decode cX2_spotsHeld 8 = .ok (.arraylength, 1) := by decide +kernel
theorem dX2_spotsHeld_9 : decode cX2_spotsHeld 9 = .ok (.istore_n 3, 1) := by decide +kernel
theorem dX2_spotsHeld_10 : decode cX2_spotsHeld 10 = .ok (.iconst 0, 1) := by decide +kernel
theorem dX2_spotsHeld_11 : decode cX2_spotsHeld 11 = .ok (.istore 4, 2) := by decide +kernel
theorem dX2_spotsHeld_13 : decode cX2_spotsHeld 13 = .ok (.iload 4, 2) := by decide +kernel
theorem dX2_spotsHeld_15 : decode cX2_spotsHeld 15 = .ok (.iload_n 3, 1) := by decide +kernel
theorem dX2_spotsHeld_16 : decode cX2_spotsHeld 16 = .ok (.if_icmp .ge 23, 3) := by decide +kernel
theorem dX2_spotsHeld_19 : decode cX2_spotsHeld 19 = .ok (.aload_n 2, 1) := by decide +kernel
theorem dX2_spotsHeld_20 : decode cX2_spotsHeld 20 = .ok (.iload 4, 2) := by decide +kernel
theorem dX2_spotsHeld_22 : decode cX2_spotsHeld 22 = .ok (.iaload, 1) := by decide +kernel
theorem dX2_spotsHeld_23 : decode cX2_spotsHeld 23 = .ok (.istore 5, 2) := by decide +kernel
theorem dX2_spotsHeld_25 : decode cX2_spotsHeld 25 = .ok (.iload 5, 2) := by decide +kernel
theorem dX2_spotsHeld_27 : decode cX2_spotsHeld 27 = .ok (.ifCond .lt 6, 3) := by decide +kernel
theorem dX2_spotsHeld_30 : decode cX2_spotsHeld 30 = .ok (.iinc 1 1, 3) := by decide +kernel
theorem dX2_spotsHeld_33 : decode cX2_spotsHeld 33 = .ok (.iinc 4 1, 3) := by decide +kernel
theorem dX2_spotsHeld_36 : decode cX2_spotsHeld 36 = .ok (.goto (-23), 3) := by decide +kernel
theorem dX2_spotsHeld_39 : decode cX2_spotsHeld 39 = .ok (.iload_n 1, 1) := by decide +kernel
theorem dX2_spotsHeld_40 : decode cX2_spotsHeld 40 = .ok (.ireturn, 1) := by decide +kernel
theorem dX3_init_0 : decode cX3_init 0 = .ok (.aload_n 0, 1) := by decide +kernel
theorem dX3_init_1 : decode cX3_init 1 = .ok (.invokespecial 3, 3) := by decide +kernel
theorem dX3_init_4 : decode cX3_init 4 = .ok (.aload_n 0, 1) := by decide +kernel
theorem dX3_init_5 : decode cX3_init 5 = .ok (.bipush 64, 2) := by decide +kernel
theorem dX3_init_7 : decode cX3_init 7 = .ok (.newarray .int, 2) := by decide +kernel
theorem dX3_init_9 : decode cX3_init 9 = .ok (.putfield 9, 3) := by decide +kernel
theorem dX3_init_12 : decode cX3_init 12 = .ok (.aload_n 0, 1) := by decide +kernel
theorem dX3_init_13 : decode cX3_init 13 = .ok (.bipush 14, 2) := by decide +kernel
theorem dX3_init_15 : decode cX3_init 15 = .ok (.newarray .int, 2) := by decide +kernel
theorem dX3_init_17 : decode cX3_init 17 = .ok (.putfield 15, 3) := by decide +kernel
theorem dX3_init_20 : decode cX3_init 20 = .ok (.aload_n 0, 1) := by decide +kernel
theorem dX3_init_21 : decode cX3_init 21 = .ok (.sipush 168, 3) := by decide +kernel
theorem dX3_init_24 : decode cX3_init 24 = .ok (.newarray .int, 2) := by decide +kernel
theorem dX3_init_26 : decode cX3_init 26 = .ok (.putfield 18, 3) := by decide +kernel
theorem dX3_init_29 : decode cX3_init 29 = .ok (.aload_n 0, 1) := by decide +kernel
theorem dX3_init_30 : decode cX3_init 30 = .ok (.bipush 8, 2) := by decide +kernel
theorem dX3_init_32 : decode cX3_init 32 = .ok (.newarray .int, 2) := by decide +kernel
theorem dX3_init_34 : decode cX3_init 34 = .ok (.putfield 21, 3) := by decide +kernel
theorem dX3_init_37 : decode cX3_init 37 = .ok (.aload_n 0, 1) := by decide +kernel
theorem dX3_init_38 : decode cX3_init 38 = .ok (.iconst 0, 1) := by decide +kernel
theorem dX3_init_39 : decode cX3_init 39 = .ok (.putfield 24, 3) := by decide +kernel
theorem dX3_init_42 : decode cX3_init 42 = .ok (.aload_n 0, 1) := by decide +kernel
theorem dX3_init_43 : decode cX3_init 43 = .ok (.iconst 0, 1) := by decide +kernel
theorem dX3_init_44 : decode cX3_init 44 = .ok (.putfield 28, 3) := by decide +kernel
theorem dX3_init_47 : decode cX3_init 47 = .ok (.aload_n 0, 1) := by decide +kernel
theorem dX3_init_48 : decode cX3_init 48 = .ok (.iconst 0, 1) := by decide +kernel
theorem dX3_init_49 : decode cX3_init 49 = .ok (.putfield 31, 3) := by decide +kernel
theorem dX3_init_52 : decode cX3_init 52 = .ok (.aload_n 0, 1) := by decide +kernel
theorem dX3_init_53 : decode cX3_init 53 = .ok (.iconst 0, 1) := by decide +kernel
theorem dX3_init_54 : decode cX3_init 54 = .ok (.putfield 34, 3) := by decide +kernel
theorem dX3_init_57 : decode cX3_init 57 = .ok (.aload_n 0, 1) := by decide +kernel
theorem dX3_init_58 : decode cX3_init 58 = .ok (.iconst 0, 1) := by decide +kernel
theorem dX3_init_59 : decode cX3_init 59 = .ok (.putfield 37, 3) := by decide +kernel
theorem dX3_init_62 : decode cX3_init 62 = .ok (.aload_n 0, 1) := by decide +kernel
theorem dX3_init_63 : decode cX3_init 63 = .ok (.iconst (-1), 1) := by decide +kernel
theorem dX3_init_64 : decode cX3_init 64 = .ok (.putfield 40, 3) := by decide +kernel
theorem dX3_init_67 : decode cX3_init 67 = .ok (.aload_n 0, 1) := by decide +kernel
theorem dX3_init_68 : decode cX3_init 68 = .ok (.iconst 0, 1) := by decide +kernel
theorem dX3_init_69 : decode cX3_init 69 = .ok (.putfield 43, 3) := by decide +kernel
theorem dX3_init_72 : decode cX3_init 72 = .ok (.aload_n 0, 1) := by decide +kernel
theorem dX3_init_73 : decode cX3_init 73 = .ok (.bipush 7, 2) := by decide +kernel
theorem dX3_init_75 : decode cX3_init 75 = .ok (.newarray .int, 2) := by decide +kernel
theorem dX3_init_77 : decode cX3_init 77 = .ok (.putfield 46, 3) := by decide +kernel
theorem dX3_init_80 : decode cX3_init 80 = .ok (.aload_n 0, 1) := by decide +kernel
theorem dX3_init_81 : decode cX3_init 81 = .ok (.iconst 0, 1) := by decide +kernel
theorem dX3_init_82 : decode cX3_init 82 = .ok (.putfield 49, 3) := by decide +kernel
theorem dX3_init_85 : decode cX3_init 85 = .ok (.aload_n 0, 1) := by decide +kernel
theorem dX3_init_86 : decode cX3_init 86 = .ok (.iconst (-1), 1) := by decide +kernel
theorem dX3_init_87 : decode cX3_init 87 = .ok (.putfield 52, 3) := by decide +kernel
theorem dX3_init_90 : decode cX3_init 90 = .ok (.aload_n 0, 1) := by decide +kernel
theorem dX3_init_91 : decode cX3_init 91 = .ok (.iconst 0, 1) := by decide +kernel
theorem dX3_init_92 : decode cX3_init 92 = .ok (.putfield 55, 3) := by decide +kernel
theorem dX3_init_95 : decode cX3_init 95 = .ok (.aload_n 0, 1) := by decide +kernel
theorem dX3_init_96 : decode cX3_init 96 = .ok (.bipush 7, 2) := by decide +kernel
theorem dX3_init_98 : decode cX3_init 98 = .ok (.newarray .int, 2) := by decide +kernel
theorem dX3_init_100 : decode cX3_init 100 = .ok (.putfield 58, 3) := by decide +kernel
theorem dX3_init_103 : decode cX3_init 103 = .ok (.aload_n 0, 1) := by decide +kernel
theorem dX3_init_104 : decode cX3_init 104 = .ok (.iconst 0, 1) := by decide +kernel
theorem dX3_init_105 : decode cX3_init 105 = .ok (.putfield 61, 3) := by decide +kernel
theorem dX3_init_108 : decode cX3_init 108 = .ok (.return_, 1) := by decide +kernel
theorem dX3_prepare_0 : decode cX3_prepare 0 = .ok (.aload_n 0, 1) := by decide +kernel
theorem dX3_prepare_1 : decode cX3_prepare 1 = .ok (.getfield 9, 3) := by decide +kernel
theorem dX3_prepare_4 : decode cX3_prepare 4 = .ok (.iconst (-1), 1) := by decide +kernel
theorem dX3_prepare_5 : decode cX3_prepare 5 = .ok (.invokestatic 64, 3) := by decide +kernel
theorem dX3_prepare_8 : decode cX3_prepare 8 = .ok (.aload_n 1, 1) := by decide +kernel
theorem dX3_prepare_9 : decode cX3_prepare 9 = .ok (.getfield 70, 3) := by decide +kernel
theorem dX3_prepare_12 : decode cX3_prepare 12 = .ok (.iconst 1, 1) := by decide +kernel
theorem dX3_prepare_13 : decode cX3_prepare 13 = .ok (.isub, 1) := by decide +kernel
theorem dX3_prepare_14 : decode cX3_prepare 14 = .ok (.istore 5, 2) := by decide +kernel
theorem dX3_prepare_16 : decode cX3_prepare 16 = .ok (.iload 5, 2) := by decide +kernel
theorem dX3_prepare_18 : decode cX3_prepare 18 = .ok (.ifCond .lt 95, 3) := by decide +kernel
theorem dX3_prepare_21 : decode cX3_prepare 21 = .ok (.aload_n 1, 1) := by decide +kernel
theorem dX3_prepare_22 : decode cX3_prepare 22 = .ok (.getfield 75, 3) := by decide +kernel
theorem dX3_prepare_25 : decode cX3_prepare 25 = .ok (.iload 5, 2) := by decide +kernel
theorem dX3_prepare_27 : decode cX3_prepare 27 = .ok (.aaload, 1) := by decide +kernel
theorem dX3_prepare_28 : decode cX3_prepare 28 = .ok (.astore 6, 2) := by decide +kernel
theorem dX3_prepare_30 : decode cX3_prepare 30 = .ok (.aload_n 0, 1) := by decide +kernel
theorem dX3_prepare_31 : decode cX3_prepare 31 = .ok (.getfield 15, 3) := by decide +kernel
theorem dX3_prepare_34 : decode cX3_prepare 34 = .ok (.iload 5, 2) := by decide +kernel
theorem dX3_prepare_36 : decode cX3_prepare 36 = .ok (.aload 6, 2) := by decide +kernel
theorem dX3_prepare_38 : decode cX3_prepare 38 = .ok (.invokevirtual 79, 3) := by decide +kernel
theorem dX3_prepare_41 : decode cX3_prepare 41 = .ok (.iastore, 1) := by decide +kernel
theorem dX3_prepare_42 : decode cX3_prepare 42 = .ok (.aload_n 1, 1) := by decide +kernel
theorem dX3_prepare_43 : decode cX3_prepare 43 = .ok (.iload 5, 2) := by decide +kernel
theorem dX3_prepare_45 : decode cX3_prepare 45 = .ok (.iload_n 3, 1) := by decide +kernel
theorem dX3_prepare_46 : decode cX3_prepare 46 = .ok (.aload_n 0, 1) := by decide +kernel
theorem dX3_prepare_47 : decode cX3_prepare 47 = .ok (.getfield 18, 3) := by decide +kernel
theorem dX3_prepare_50 : decode cX3_prepare 50 = .ok (.bipush 12, 2) := by decide +kernel
theorem dX3_prepare_52 : decode cX3_prepare 52 = .ok (.iload 5, 2) := by decide +kernel
theorem dX3_prepare_54 : decode cX3_prepare 54 = .ok (.imul, 1) := by decide +kernel
theorem dX3_prepare_55 : decode cX3_prepare 55 = .ok (.invokevirtual 84, 3) := by decide +kernel
theorem dX3_prepare_58 : decode cX3_prepare 58 = .ok (.iload 5, 2) := by decide +kernel
theorem dX3_prepare_60 : decode cX3_prepare 60 = .ok (.iload 4, 2) := by decide +kernel
theorem dX3_prepare_62 : decode cX3_prepare 62 = .ok (.if_icmp .eq 45, 3) := by decide +kernel
theorem dX3_prepare_65 : decode cX3_prepare 65 = .ok (.aload_n 0, 1) := by decide +kernel
theorem dX3_prepare_66 : decode cX3_prepare 66 = .ok (.getfield 9, 3) := by decide +kernel
theorem dX3_prepare_69 : decode cX3_prepare 69 = .ok (.bipush 8, 2) := by decide +kernel
theorem dX3_prepare_71 : decode cX3_prepare 71 = .ok (.aload 6, 2) := by decide +kernel
theorem dX3_prepare_73 : decode cX3_prepare 73 = .ok (.getfield 88, 3) := by decide +kernel
theorem dX3_prepare_76 : decode cX3_prepare 76 = .ok (.imul, 1) := by decide +kernel
theorem dX3_prepare_77 : decode cX3_prepare 77 = .ok (.aload 6, 2) := by decide +kernel
theorem dX3_prepare_79 : decode cX3_prepare 79 = .ok (.getfield 91, 3) := by decide +kernel
theorem dX3_prepare_82 : decode cX3_prepare 82 = .ok (.iadd, 1) := by decide +kernel
theorem dX3_prepare_83 : decode cX3_prepare 83 = .ok (.iload 5, 2) := by decide +kernel
theorem dX3_prepare_85 : decode cX3_prepare 85 = .ok (.iastore, 1) := by decide +kernel
theorem dX3_prepare_86 : decode cX3_prepare 86 = .ok (.aload_n 0, 1) := by decide +kernel
theorem dX3_prepare_87 : decode cX3_prepare 87 = .ok (.getfield 9, 3) := by decide +kernel
theorem dX3_prepare_90 : decode cX3_prepare 90 = .ok (.bipush 8, 2) := by decide +kernel
theorem dX3_prepare_92 : decode cX3_prepare 92 = .ok (.aload 6, 2) := by decide +kernel
theorem dX3_prepare_94 : decode cX3_prepare 94 = .ok (.getfield 91, 3) := by decide +kernel
theorem dX3_prepare_97 : decode cX3_prepare 97 = .ok (.imul, 1) := by decide +kernel
theorem dX3_prepare_98 : decode cX3_prepare 98 = .ok (.aload 6, 2) := by decide +kernel
theorem dX3_prepare_100 : decode cX3_prepare 100 = .ok (.getfield 88, 3) := by decide +kernel
theorem dX3_prepare_103 : decode cX3_prepare 103 = .ok (.iadd, 1) := by decide +kernel
theorem dX3_prepare_104 : decode cX3_prepare 104 = .ok (.iload 5, 2) := by decide +kernel
theorem dX3_prepare_106 : decode cX3_prepare 106 = .ok (.iastore, 1) := by decide +kernel
theorem dX3_prepare_107 : decode cX3_prepare 107 = .ok (.iinc 5 (-1), 3) := by decide +kernel
theorem dX3_prepare_110 : decode cX3_prepare 110 = .ok (.goto (-94), 3) := by decide +kernel
theorem dX3_prepare_113 : decode cX3_prepare 113 = .ok (.aload_n 1, 1) := by decide +kernel
theorem dX3_prepare_114 : decode cX3_prepare 114 = .ok (.getfield 94, 3) := by decide +kernel
theorem dX3_prepare_117 : decode cX3_prepare 117 = .ok (.iconst 0, 1) := by decide +kernel
theorem dX3_prepare_118 : decode cX3_prepare 118 = .ok (.aload_n 0, 1) := by decide +kernel
theorem dX3_prepare_119 : decode cX3_prepare 119 = .ok (.getfield 21, 3) := by decide +kernel
theorem dX3_prepare_122 : decode cX3_prepare 122 = .ok (.iconst 0, 1) := by decide +kernel
theorem dX3_prepare_123 : decode cX3_prepare 123 = .ok (.bipush 8, 2) := by decide +kernel
theorem dX3_prepare_125 : decode cX3_prepare 125 = .ok (.invokestatic 95, 3) := by decide +kernel
theorem dX3_prepare_128 : decode cX3_prepare 128 = .ok (.aload_n 0, 1) := by decide +kernel
theorem dX3_prepare_129 : decode cX3_prepare 129 = .ok (.aload_n 1, 1) := by decide +kernel
theorem dX3_prepare_130 : decode cX3_prepare 130 = .ok (.invokevirtual 101, 3) := by decide +kernel
theorem dX3_prepare_133 : decode cX3_prepare 133 = .ok (.putfield 24, 3) := by decide +kernel
theorem dX3_prepare_136 : decode cX3_prepare 136 = .ok (.aload_n 0, 1) := by decide +kernel
theorem dX3_prepare_137 : decode cX3_prepare 137 = .ok (.aload_n 2, 1) := by decide +kernel
theorem dX3_prepare_138 : decode cX3_prepare 138 = .ok (.getfield 104, 3) := by decide +kernel
theorem dX3_prepare_141 : decode cX3_prepare 141 = .ok (.putfield 28, 3) := by decide +kernel
theorem dX3_prepare_144 : decode cX3_prepare 144 = .ok (.aload_n 0, 1) := by decide +kernel
theorem dX3_prepare_145 : decode cX3_prepare 145 = .ok (.aload_n 2, 1) := by decide +kernel
theorem dX3_prepare_146 : decode cX3_prepare 146 = .ok (.invokevirtual 109, 3) := by decide +kernel
theorem dX3_prepare_149 : decode cX3_prepare 149 = .ok (.putfield 31, 3) := by decide +kernel
theorem dX3_prepare_152 : decode cX3_prepare 152 = .ok (.aload_n 0, 1) := by decide +kernel
theorem dX3_prepare_153 : decode cX3_prepare 153 = .ok (.aload_n 2, 1) := by decide +kernel
theorem dX3_prepare_154 : decode cX3_prepare 154 = .ok (.invokevirtual 111, 3) := by decide +kernel
theorem dX3_prepare_157 : decode cX3_prepare 157 = .ok (.putfield 34, 3) := by decide +kernel
theorem dX3_prepare_160 : decode cX3_prepare 160 = .ok (.aload_n 0, 1) := by decide +kernel
theorem dX3_prepare_161 : decode cX3_prepare 161 = .ok (.aload_n 2, 1) := by decide +kernel
theorem dX3_prepare_162 : decode cX3_prepare 162 = .ok (.getfield 113, 3) := by decide +kernel
theorem dX3_prepare_165 : decode cX3_prepare 165 = .ok (.putfield 37, 3) := by decide +kernel
theorem dX3_prepare_168 : decode cX3_prepare 168 = .ok (.return_, 1) := by decide +kernel
theorem dX3_seek_0 : decode cX3_seek 0 = .ok (.aload_n 0, 1) := by decide +kernel
theorem dX3_seek_1 : decode cX3_seek 1 = .ok (.iload_n 1, 1) := by decide +kernel
theorem dX3_seek_2 : decode cX3_seek 2 = .ok (.putfield 40, 3) := by decide +kernel
theorem dX3_seek_5 : decode cX3_seek 5 = .ok (.aload_n 0, 1) := by decide +kernel
theorem dX3_seek_6 : decode cX3_seek 6 = .ok (.iload_n 2, 1) := by decide +kernel
theorem dX3_seek_7 : decode cX3_seek 7 = .ok (.putfield 43, 3) := by decide +kernel
theorem dX3_seek_10 : decode cX3_seek 10 = .ok (.aload_n 0, 1) := by decide +kernel
theorem dX3_seek_11 : decode cX3_seek 11 = .ok (.iconst 0, 1) := by decide +kernel
theorem dX3_seek_12 : decode cX3_seek 12 = .ok (.putfield 49, 3) := by decide +kernel
theorem dX3_seek_15 : decode cX3_seek 15 = .ok (.aload_n 0, 1) := by decide +kernel
theorem dX3_seek_16 : decode cX3_seek 16 = .ok (.iconst (-1), 1) := by decide +kernel
theorem dX3_seek_17 : decode cX3_seek 17 = .ok (.putfield 52, 3) := by decide +kernel
theorem dX3_seek_20 : decode cX3_seek 20 = .ok (.aload_n 0, 1) := by decide +kernel
theorem dX3_seek_21 : decode cX3_seek 21 = .ok (.iconst 0, 1) := by decide +kernel
theorem dX3_seek_22 : decode cX3_seek 22 = .ok (.putfield 55, 3) := by decide +kernel
theorem dX3_seek_25 : decode cX3_seek 25 = .ok (.aload_n 0, 1) := by decide +kernel
theorem dX3_seek_26 : decode cX3_seek 26 = .ok (.iconst 0, 1) := by decide +kernel
theorem dX3_seek_27 : decode cX3_seek 27 = .ok (.putfield 61, 3) := by decide +kernel
theorem dX3_seek_30 : decode cX3_seek 30 = .ok (.aload_n 0, 1) := by decide +kernel
theorem dX3_seek_31 : decode cX3_seek 31 = .ok (.aload_n 0, 1) := by decide +kernel
theorem dX3_seek_32 : decode cX3_seek 32 = .ok (.getfield 28, 3) := by decide +kernel
theorem dX3_seek_35 : decode cX3_seek 35 = .ok (.iload_n 2, 1) := by decide +kernel
theorem dX3_seek_36 : decode cX3_seek 36 = .ok (.iconst 0, 1) := by decide +kernel
theorem dX3_seek_37 : decode cX3_seek 37 = .ok (.aload_n 0, 1) := by decide +kernel
theorem dX3_seek_38 : decode cX3_seek 38 = .ok (.getfield 37, 3) := by decide +kernel
theorem dX3_seek_41 : decode cX3_seek 41 = .ok (.iconst 1, 1) := by decide +kernel
theorem dX3_seek_42 : decode cX3_seek 42 = .ok (.aload_n 0, 1) := by decide +kernel
theorem dX3_seek_43 : decode cX3_seek 43 = .ok (.getfield 28, 3) := by decide +kernel
theorem dX3_seek_46 : decode cX3_seek 46 = .ok (.ishl, 1) := by decide +kernel
theorem dX3_seek_47 : decode cX3_seek 47 = .ok (.iconst 0, 1) := by decide +kernel
theorem dX3_seek_48 : decode cX3_seek 48 = .ok (.invokevirtual 116, 3) := by decide +kernel
theorem dX3_seek_51 : decode cX3_seek 51 = .ok (.return_, 1) := by decide +kernel
theorem dX3_walk_0 : decode cX3_walk 0 = .ok (.iload_n 1, 1) := by decide +kernel
theorem dX3_walk_1 : decode cX3_walk 1 = .ok (.aload_n 0, 1) := by decide +kernel
theorem dX3_walk_2 : decode cX3_walk 2 = .ok (.getfield 40, 3) := by decide +kernel
theorem dX3_walk_5 : decode cX3_walk 5 = .ok (.if_icmp .ne 12, 3) := by decide +kernel
theorem dX3_walk_8 : decode cX3_walk 8 = .ok (.aload_n 0, 1) := by decide +kernel
theorem dX3_walk_9 : decode cX3_walk 9 = .ok (.iload_n 2, 1) := by decide +kernel
theorem dX3_walk_10 : decode cX3_walk 10 = .ok (.iload_n 3, 1) := by decide +kernel
theorem dX3_walk_11 : decode cX3_walk 11 = .ok (.iload 6, 2) := by decide +kernel
theorem dX3_walk_13 : decode cX3_walk 13 = .ok (.invokevirtual 120, 3) := by decide +kernel
theorem dX3_walk_16 : decode cX3_walk 16 = .ok (.return_, 1) := by decide +kernel
theorem dX3_walk_17 : decode cX3_walk 17 = .ok (.aload_n 0, 1) := by decide +kernel
theorem dX3_walk_18 : decode cX3_walk 18 = .ok (.getfield 40, 3) := by decide +kernel
theorem dX3_walk_21 : decode cX3_walk 21 = .ok (.iconst (-1), 1) := by decide +kernel
theorem dX3_walk_22 : decode cX3_walk 22 = .ok (.if_icmp .ne 19, 3) := by decide +kernel
theorem dX3_walk_25 : decode cX3_walk 25 = .ok (.iload 6, 2) := by decide +kernel
theorem dX3_walk_27 : decode cX3_walk 27 = .ok (.ifCond .le 14, 3) := by decide +kernel
theorem dX3_walk_30 : decode cX3_walk 30 = .ok (.aload_n 0, 1) := by decide +kernel
theorem dX3_walk_31 : decode cX3_walk 31 = .ok (.iload_n 1, 1) := by decide +kernel
theorem dX3_walk_32 : decode cX3_walk 32 = .ok (.iload_n 2, 1) := by decide +kernel
theorem dX3_walk_33 : decode cX3_walk 33 = .ok (.iload_n 3, 1) := by decide +kernel
theorem dX3_walk_34 : decode cX3_walk 34 = .ok (.iload 4, 2) := by decide +kernel
theorem dX3_walk_36 : decode cX3_walk 36 = .ok (.iload 6, 2) := by decide +kernel
theorem dX3_walk_38 : decode cX3_walk 38 = .ok (.invokevirtual 124, 3) := by decide +kernel
theorem dX3_walk_41 : decode cX3_walk 41 = .ok (.iload 6, 2) := by decide +kernel
theorem dX3_walk_43 : decode cX3_walk 43 = .ok (.aload_n 0, 1) := by decide +kernel
theorem dX3_walk_44 : decode cX3_walk 44 = .ok (.getfield 46, 3) := by decide +kernel
theorem dX3_walk_47 : decode cX3_walk 47 = .ok (.arraylength, 1) := by decide +kernel
theorem dX3_walk_48 : decode cX3_walk 48 = .ok (.if_icmp .lt 4, 3) := by decide +kernel
theorem dX3_walk_51 : decode cX3_walk 51 = .ok (.return_, 1) := by decide +kernel
theorem dX3_walk_52 : decode cX3_walk 52 = .ok (.iconst 0, 1) := by decide +kernel
theorem dX3_walk_53 : decode cX3_walk 53 = .ok (.istore 7, 2) := by decide +kernel
theorem dX3_walk_55 : decode cX3_walk 55 = .ok (.iload 7, 2) := by decide +kernel
theorem dX3_walk_57 : decode cX3_walk 57 = .ok (.bipush 8, 2) := by decide +kernel
theorem dX3_walk_59 : decode cX3_walk 59 = .ok (.if_icmp .ge 109, 3) := by decide +kernel
theorem dX3_walk_62 : decode cX3_walk 62 = .ok (.aload_n 0, 1) := by decide +kernel
theorem dX3_walk_63 : decode cX3_walk 63 = .ok (.getfield 9, 3) := by decide +kernel
theorem dX3_walk_66 : decode cX3_walk 66 = .ok (.bipush 8, 2) := by decide +kernel
theorem dX3_walk_68 : decode cX3_walk 68 = .ok (.iload_n 1, 1) := by decide +kernel
theorem dX3_walk_69 : decode cX3_walk 69 = .ok (.imul, 1) := by decide +kernel
theorem dX3_walk_70 : decode cX3_walk 70 = .ok (.iload 7, 2) := by decide +kernel
theorem dX3_walk_72 : decode cX3_walk 72 = .ok (.iadd, 1) := by decide +kernel
theorem dX3_walk_73 : decode cX3_walk 73 = .ok (.iaload, 1) := by decide +kernel
theorem dX3_walk_74 : decode cX3_walk 74 = .ok (.istore 8, 2) := by decide +kernel
theorem dX3_walk_76 : decode cX3_walk 76 = .ok (.iload 8, 2) := by decide +kernel
theorem dX3_walk_78 : decode cX3_walk 78 = .ok (.ifCond .lt 84, 3) := by decide +kernel
theorem dX3_walk_81 : decode cX3_walk 81 = .ok (.iload 5, 2) := by decide +kernel
theorem dX3_walk_83 : decode cX3_walk 83 = .ok (.iload 7, 2) := by decide +kernel
theorem dX3_walk_85 : decode cX3_walk 85 = .ok (.invokestatic 128, 3) := by decide +kernel
theorem dX3_walk_88 : decode cX3_walk 88 = .ok (.ifCond .ne 74, 3) := by decide +kernel
theorem dX3_walk_91 : decode cX3_walk 91 = .ok (.aload_n 0, 1) := by decide +kernel
theorem dX3_walk_92 : decode cX3_walk 92 = .ok (.getfield 46, 3) := by decide +kernel
theorem dX3_walk_95 : decode cX3_walk 95 = .ok (.iload 6, 2) := by decide +kernel
theorem dX3_walk_97 : decode cX3_walk 97 = .ok (.iload 7, 2) := by decide +kernel
theorem dX3_walk_99 : decode cX3_walk 99 = .ok (.iastore, 1) := by decide +kernel
theorem dX3_walk_100 : decode cX3_walk 100 = .ok (.iload_n 3, 1) := by decide +kernel
theorem dX3_walk_101 : decode cX3_walk 101 = .ok (.aload_n 0, 1) := by decide +kernel
theorem dX3_walk_102 : decode cX3_walk 102 = .ok (.getfield 18, 3) := by decide +kernel
theorem dX3_walk_105 : decode cX3_walk 105 = .ok (.bipush 12, 2) := by decide +kernel
theorem dX3_walk_107 : decode cX3_walk 107 = .ok (.iload 8, 2) := by decide +kernel
theorem dX3_walk_109 : decode cX3_walk 109 = .ok (.imul, 1) := by decide +kernel
theorem dX3_walk_110 : decode cX3_walk 110 = .ok (.iload_n 2, 1) := by decide +kernel
theorem dX3_walk_111 : decode cX3_walk 111 = .ok (.aload_n 0, 1) := by decide +kernel
theorem dX3_walk_112 : decode cX3_walk 112 = .ok (.getfield 15, 3) := by decide +kernel
theorem dX3_walk_115 : decode cX3_walk 115 = .ok (.iload 8, 2) := by decide +kernel
theorem dX3_walk_117 : decode cX3_walk 117 = .ok (.iaload, 1) := by decide +kernel
theorem dX3_walk_118 : decode cX3_walk 118 = .ok (.invokestatic 132, 3) := by decide +kernel
theorem dX3_walk_121 : decode cX3_walk 121 = .ok (.iadd, 1) := by decide +kernel
theorem dX3_walk_122 : decode cX3_walk 122 = .ok (.istore 9, 2) := by decide +kernel
theorem dX3_walk_124 : decode cX3_walk 124 = .ok (.aload_n 0, 1) := by decide +kernel
theorem dX3_walk_125 : decode cX3_walk 125 = .ok (.iload 7, 2) := by decide +kernel
theorem dX3_walk_127 : decode cX3_walk 127 = .ok (.iload_n 2, 1) := by decide +kernel
theorem dX3_walk_128 : decode cX3_walk 128 = .ok (.aload_n 0, 1) := by decide +kernel
theorem dX3_walk_129 : decode cX3_walk 129 = .ok (.getfield 15, 3) := by decide +kernel
theorem dX3_walk_132 : decode cX3_walk 132 = .ok (.iload 8, 2) := by decide +kernel
theorem dX3_walk_134 : decode cX3_walk 134 = .ok (.iaload, 1) := by decide +kernel
theorem dX3_walk_135 : decode cX3_walk 135 = .ok (.iadd, 1) := by decide +kernel
theorem dX3_walk_136 : decode cX3_walk 136 = .ok (.iload 9, 2) := by decide +kernel
theorem dX3_walk_138 : decode cX3_walk 138 = .ok (.aload_n 0, 1) := by decide +kernel
theorem dX3_walk_139 : decode cX3_walk 139 = .ok (.iload 7, 2) := by decide +kernel
theorem dX3_walk_141 : decode cX3_walk 141 = .ok (.iload 9, 2) := by decide +kernel
theorem dX3_walk_143 : decode cX3_walk 143 = .ok (.iload 4, 2) := by decide +kernel
theorem dX3_walk_145 : decode cX3_walk 145 = .ok (.invokevirtual 136, 3) := by decide +kernel
theorem dX3_walk_148 : decode cX3_walk 148 = .ok (.iload 5, 2) := by decide +kernel
theorem dX3_walk_150 : decode cX3_walk 150 = .ok (.iconst 1, 1) := by decide +kernel
theorem dX3_walk_151 : decode cX3_walk 151 = .ok (.iload 7, 2) := by decide +kernel
theorem dX3_walk_153 : decode cX3_walk 153 = .ok (.ishl, 1) := by decide +kernel
theorem dX3_walk_154 : decode cX3_walk 154 = .ok (.ior, 1) := by decide +kernel
theorem dX3_walk_155 : decode cX3_walk 155 = .ok (.iload 6, 2) := by decide +kernel
theorem dX3_walk_157 : decode cX3_walk 157 = .ok (.iconst 1, 1) := by decide +kernel
theorem dX3_walk_158 : decode cX3_walk 158 = .ok (.iadd, 1) := by decide +kernel
theorem dX3_walk_159 : decode cX3_walk 159 = .ok (.invokevirtual 116, 3) := by decide +kernel
theorem dX3_walk_162 : decode cX3_walk 162 = .ok (.iinc 7 1, 3) := by decide +kernel
theorem dX3_walk_165 : decode cX3_walk 165 = .ok (.goto (-110), 3) := by decide +kernel
theorem dX3_walk_168 : decode cX3_walk 168 = .ok (.return_, 1) := by decide +kernel
theorem dX3_closeRound_0 : decode cX3_closeRound 0 = .ok (.aload_n 0, 1) := by decide +kernel
theorem dX3_closeRound_1 : decode cX3_closeRound 1 = .ok (.getfield 9, 3) := by decide +kernel
theorem dX3_closeRound_4 : decode cX3_closeRound 4 = .ok (.bipush 8, 2) := by decide +kernel
theorem dX3_closeRound_6 : decode cX3_closeRound 6 = .ok (.iload_n 1, 1) := by decide +kernel
theorem dX3_closeRound_7 : decode cX3_closeRound 7 = .ok (.imul, 1) := by decide +kernel
theorem dX3_closeRound_8 : decode cX3_closeRound 8 = .ok (.aload_n 0, 1) := by decide +kernel
theorem dX3_closeRound_9 : decode cX3_closeRound 9 = .ok (.getfield 28, 3) := by decide +kernel
theorem dX3_closeRound_12 : decode cX3_closeRound 12 = .ok (.iadd, 1) := by decide +kernel
theorem dX3_closeRound_13 : decode cX3_closeRound 13 = .ok (.iaload, 1) := by decide +kernel
theorem dX3_closeRound_14 : decode cX3_closeRound 14 = .ok (.istore 6, 2) := by decide +kernel
theorem dX3_closeRound_16 : decode cX3_closeRound 16 = .ok (.iload 6, 2) := by decide +kernel
theorem dX3_closeRound_18 : decode cX3_closeRound 18 = .ok (.ifCond .ge 4, 3) := by decide +kernel
theorem dX3_closeRound_21 : decode cX3_closeRound 21 = .ok (.return_, 1) := by decide +kernel
theorem dX3_closeRound_22 : decode cX3_closeRound 22 = .ok (.iload_n 3, 1) := by decide +kernel
theorem dX3_closeRound_23 : decode cX3_closeRound 23 = .ok (.aload_n 0, 1) := by decide +kernel
theorem dX3_closeRound_24 : decode cX3_closeRound 24 = .ok (.getfield 18, 3) := by decide +kernel
theorem dX3_closeRound_27 : decode cX3_closeRound 27 = .ok (.bipush 12, 2) := by decide +kernel
theorem dX3_closeRound_29 : decode cX3_closeRound 29 = .ok (.iload 6, 2) := by decide +kernel
theorem dX3_closeRound_31 : decode cX3_closeRound 31 = .ok (.imul, 1) := by decide +kernel
theorem dX3_closeRound_32 : decode cX3_closeRound 32 = .ok (.iload_n 2, 1) := by decide +kernel
theorem dX3_closeRound_33 : decode cX3_closeRound 33 = .ok (.aload_n 0, 1) := by decide +kernel
theorem dX3_closeRound_34 : decode cX3_closeRound 34 = .ok (.getfield 15, 3) := by decide +kernel
theorem dX3_closeRound_37 : decode cX3_closeRound 37 = .ok (.iload 6, 2) := by decide +kernel
theorem dX3_closeRound_39 : decode cX3_closeRound 39 = .ok (.iaload, 1) := by decide +kernel
theorem dX3_closeRound_40 : decode cX3_closeRound 40 = .ok (.invokestatic 132, 3) := by decide +kernel
theorem dX3_closeRound_43 : decode cX3_closeRound 43 = .ok (.iadd, 1) := by decide +kernel
theorem dX3_closeRound_44 : decode cX3_closeRound 44 = .ok (.istore 7, 2) := by decide +kernel
theorem dX3_closeRound_46 : decode cX3_closeRound 46 = .ok (.aload_n 0, 1) := by decide +kernel
theorem dX3_closeRound_47 : decode cX3_closeRound 47 = .ok (.getfield 24, 3) := by decide +kernel
theorem dX3_closeRound_50 : decode cX3_closeRound 50 = .ok (.aload_n 0, 1) := by decide +kernel
theorem dX3_closeRound_51 : decode cX3_closeRound 51 = .ok (.aload_n 0, 1) := by decide +kernel
theorem dX3_closeRound_52 : decode cX3_closeRound 52 = .ok (.getfield 28, 3) := by decide +kernel
theorem dX3_closeRound_55 : decode cX3_closeRound 55 = .ok (.iload 7, 2) := by decide +kernel
theorem dX3_closeRound_57 : decode cX3_closeRound 57 = .ok (.iload 4, 2) := by decide +kernel
theorem dX3_closeRound_59 : decode cX3_closeRound 59 = .ok (.invokevirtual 136, 3) := by decide +kernel
theorem dX3_closeRound_62 : decode cX3_closeRound 62 = .ok (.iconst (-1), 1) := by decide +kernel
theorem dX3_closeRound_63 : decode cX3_closeRound 63 = .ok (.ixor, 1) := by decide +kernel
theorem dX3_closeRound_64 : decode cX3_closeRound 64 = .ok (.iand, 1) := by decide +kernel
theorem dX3_closeRound_65 : decode cX3_closeRound 65 = .ok (.ifCond .ne 20, 3) := by decide +kernel
theorem dX3_closeRound_68 : decode cX3_closeRound 68 = .ok (.aload_n 0, 1) := by decide +kernel
theorem dX3_closeRound_69 : decode cX3_closeRound 69 = .ok (.iload_n 2, 1) := by decide +kernel
theorem dX3_closeRound_70 : decode cX3_closeRound 70 = .ok (.aload_n 0, 1) := by decide +kernel
theorem dX3_closeRound_71 : decode cX3_closeRound 71 = .ok (.getfield 15, 3) := by decide +kernel
theorem dX3_closeRound_74 : decode cX3_closeRound 74 = .ok (.iload 6, 2) := by decide +kernel
theorem dX3_closeRound_76 : decode cX3_closeRound 76 = .ok (.iaload, 1) := by decide +kernel
theorem dX3_closeRound_77 : decode cX3_closeRound 77 = .ok (.iadd, 1) := by decide +kernel
theorem dX3_closeRound_78 : decode cX3_closeRound 78 = .ok (.iload 7, 2) := by decide +kernel
theorem dX3_closeRound_80 : decode cX3_closeRound 80 = .ok (.iload 5, 2) := by decide +kernel
theorem dX3_closeRound_82 : decode cX3_closeRound 82 = .ok (.invokevirtual 120, 3) := by decide +kernel
theorem dX3_closeRound_85 : decode cX3_closeRound 85 = .ok (.return_, 1) := by decide +kernel
theorem dX3_seenAt_0 : decode cX3_seenAt 0 = .ok (.iload_n 2, 1) := by decide +kernel
theorem dX3_seenAt_1 : decode cX3_seenAt 1 = .ok (.aload_n 0, 1) := by decide +kernel
theorem dX3_seenAt_2 : decode cX3_seenAt 2 = .ok (.getfield 34, 3) := by decide +kernel
theorem dX3_seenAt_5 : decode cX3_seenAt 5 = .ok (.if_icmp .ge 16, 3) := by decide +kernel
theorem dX3_seenAt_8 : decode cX3_seenAt 8 = .ok (.iload_n 3, 1) := by decide +kernel
theorem dX3_seenAt_9 : decode cX3_seenAt 9 = .ok (.iconst 1, 1) := by decide +kernel
theorem dX3_seenAt_10 : decode cX3_seenAt 10 = .ok (.aload_n 0, 1) := by decide +kernel
theorem dX3_seenAt_11 : decode cX3_seenAt 11 = .ok (.getfield 21, 3) := by decide +kernel
theorem dX3_seenAt_14 : decode cX3_seenAt 14 = .ok (.iload_n 1, 1) := by decide +kernel
theorem dX3_seenAt_15 : decode cX3_seenAt 15 = .ok (.iaload, 1) := by decide +kernel
theorem dX3_seenAt_16 : decode cX3_seenAt 16 = .ok (.ishl, 1) := by decide +kernel
theorem dX3_seenAt_17 : decode cX3_seenAt 17 = .ok (.ior, 1) := by decide +kernel
theorem dX3_seenAt_18 : decode cX3_seenAt 18 = .ok (.goto 4, 3) := by decide +kernel
theorem dX3_seenAt_21 : decode cX3_seenAt 21 = .ok (.iload_n 3, 1) := by decide +kernel
theorem dX3_seenAt_22 : decode cX3_seenAt 22 = .ok (.ireturn, 1) := by decide +kernel
theorem dX3_note_0 : decode cX3_note 0 = .ok (.iconst 0, 1) := by decide +kernel
theorem dX3_note_1 : decode cX3_note 1 = .ok (.aload_n 0, 1) := by decide +kernel
theorem dX3_note_2 : decode cX3_note 2 = .ok (.getfield 31, 3) := by decide +kernel
theorem dX3_note_5 : decode cX3_note 5 = .ok (.iload_n 2, 1) := by decide +kernel
theorem dX3_note_6 : decode cX3_note 6 = .ok (.isub, 1) := by decide +kernel
theorem dX3_note_7 : decode cX3_note 7 = .ok (.invokestatic 140, 3) := by decide +kernel
theorem dX3_note_10 : decode cX3_note 10 = .ok (.istore 4, 2) := by decide +kernel
theorem dX3_note_12 : decode cX3_note 12 = .ok (.iload_n 1, 1) := by decide +kernel
theorem dX3_note_13 : decode cX3_note 13 = .ok (.aload_n 0, 1) := by decide +kernel
theorem dX3_note_14 : decode cX3_note 14 = .ok (.getfield 43, 3) := by decide +kernel
theorem dX3_note_17 : decode cX3_note 17 = .ok (.isub, 1) := by decide +kernel
theorem dX3_note_18 : decode cX3_note 18 = .ok (.istore 5, 2) := by decide +kernel
theorem dX3_note_20 : decode cX3_note 20 = .ok (.aload_n 0, 1) := by decide +kernel
theorem dX3_note_21 : decode cX3_note 21 = .ok (.aload_n 0, 1) := by decide +kernel
theorem dX3_note_22 : decode cX3_note 22 = .ok (.getfield 49, 3) := by decide +kernel
theorem dX3_note_25 : decode cX3_note 25 = .ok (.ifCond .ne 8, 3) := by decide +kernel
theorem dX3_note_28 : decode cX3_note 28 = .ok (.iload 5, 2) := by decide +kernel
theorem dX3_note_30 : decode cX3_note 30 = .ok (.goto 12, 3) := by decide +kernel
theorem dX3_note_33 : decode cX3_note 33 = .ok (.aload_n 0, 1) := by decide +kernel
theorem dX3_note_34 : decode cX3_note 34 = .ok (.getfield 55, 3) := by decide +kernel
theorem dX3_note_37 : decode cX3_note 37 = .ok (.iload 5, 2) := by decide +kernel
theorem dX3_note_39 : decode cX3_note 39 = .ok (.invokestatic 146, 3) := by decide +kernel
theorem dX3_note_42 : decode cX3_note 42 = .ok (.putfield 55, 3) := by decide +kernel
theorem dX3_note_45 : decode cX3_note 45 = .ok (.aload_n 0, 1) := by decide +kernel
theorem dX3_note_46 : decode cX3_note 46 = .ok (.dup, 1) := by decide +kernel
theorem dX3_note_47 : decode cX3_note 47 = .ok (.getfield 49, 3) := by decide +kernel
theorem dX3_note_50 : decode cX3_note 50 = .ok (.iconst 1, 1) := by decide +kernel
theorem dX3_note_51 : decode cX3_note 51 = .ok (.iadd, 1) := by decide +kernel
theorem dX3_note_52 : decode cX3_note 52 = .ok (.putfield 49, 3) := by decide +kernel
theorem dX3_note_55 : decode cX3_note 55 = .ok (.iload 4, 2) := by decide +kernel
theorem dX3_note_57 : decode cX3_note 57 = .ok (.aload_n 0, 1) := by decide +kernel
theorem dX3_note_58 : decode cX3_note 58 = .ok (.getfield 52, 3) := by decide +kernel
theorem dX3_note_61 : decode cX3_note 61 = .ok (.if_icmp .le 28, 3) := by decide +kernel
theorem dX3_note_64 : decode cX3_note 64 = .ok (.aload_n 0, 1) := by decide +kernel
theorem dX3_note_65 : decode cX3_note 65 = .ok (.iload 4, 2) := by decide +kernel
theorem dX3_note_67 : decode cX3_note 67 = .ok (.putfield 52, 3) := by decide +kernel
theorem dX3_note_70 : decode cX3_note 70 = .ok (.aload_n 0, 1) := by decide +kernel
theorem dX3_note_71 : decode cX3_note 71 = .ok (.iload_n 3, 1) := by decide +kernel
theorem dX3_note_72 : decode cX3_note 72 = .ok (.putfield 61, 3) := by decide +kernel
theorem dX3_note_75 : decode cX3_note 75 = .ok (.aload_n 0, 1) := by decide +kernel
theorem dX3_note_76 : decode cX3_note 76 = .ok (.getfield 46, 3) := by decide +kernel
theorem dX3_note_79 : decode cX3_note 79 = .ok (.iconst 0, 1) := by decide +kernel
theorem dX3_note_80 : decode cX3_note 80 = .ok (.aload_n 0, 1) := by decide +kernel
theorem dX3_note_81 : decode cX3_note 81 = .ok (.getfield 58, 3) := by decide +kernel
theorem dX3_note_84 : decode cX3_note 84 = .ok (.iconst 0, 1) := by decide +kernel
theorem dX3_note_85 : decode cX3_note 85 = .ok (.iload_n 3, 1) := by decide +kernel
theorem dX3_note_86 : decode cX3_note 86 = .ok (.invokestatic 95, 3) := by decide +kernel
theorem dX3_note_89 : decode cX3_note 89 = .ok (.return_, 1) := by decide +kernel
theorem dX4_init_0 : decode cX4_init 0 = .ok (.aload_n 0, 1) := by decide +kernel
theorem dX4_init_1 : decode cX4_init 1 = .ok (.invokespecial 3, 3) := by decide +kernel
theorem dX4_init_4 : decode cX4_init 4 = .ok (.aload_n 0, 1) := by decide +kernel
theorem dX4_init_5 : decode cX4_init 5 = .ok (.iconst 0, 1) := by decide +kernel
theorem dX4_init_6 : decode cX4_init 6 = .ok (.putfield 9, 3) := by decide +kernel
theorem dX4_init_9 : decode cX4_init 9 = .ok (.aload_n 0, 1) := by decide +kernel
theorem dX4_init_10 : decode cX4_init 10 = .ok (.iconst 0, 1) := by decide +kernel
theorem dX4_init_11 : decode cX4_init 11 = .ok (.putfield 15, 3) := by decide +kernel
theorem dX4_init_14 : decode cX4_init 14 = .ok (.aload_n 0, 1) := by decide +kernel
theorem dX4_init_15 : decode cX4_init 15 = .ok (.bipush 40, 2) := by decide +kernel
theorem dX4_init_17 : decode cX4_init 17 = .ok (.newarray .int, 2) := by decide +kernel
theorem dX4_init_19 : decode cX4_init 19 = .ok (.putfield 18, 3) := by decide +kernel
theorem dX4_init_22 : decode cX4_init 22 = .ok (.return_, 1) := by decide +kernel
theorem dX4_isMissing_0 : decode cX4_isMissing 0 = .ok (.aload_n 0, 1) := by decide +kernel
theorem dX4_isMissing_1 : decode cX4_isMissing 1 = .ok (.getfield 9, 3) := by decide +kernel
theorem dX4_isMissing_4 : decode cX4_isMissing 4 = .ok (.ifCond .ne 7, 3) := by decide +kernel
theorem dX4_isMissing_7 : decode cX4_isMissing 7 = .ok (.iconst 1, 1) := by decide +kernel
theorem dX4_isMissing_8 : decode cX4_isMissing 8 = .ok (.goto 4, 3) := by decide +kernel
theorem dX4_isMissing_11 : decode cX4_isMissing 11 = .ok (.iconst 0, 1) := by decide +kernel
theorem dX4_isMissing_12 : decode cX4_isMissing 12 = .ok (.ireturn, 1) := by decide +kernel
theorem dX4_remake_0 : decode cX4_remake 0 = .ok (.aload_n 0, 1) := by decide +kernel
theorem dX4_remake_1 : decode cX4_remake 1 = .ok (.iload_n 1, 1) := by decide +kernel
theorem dX4_remake_2 : decode cX4_remake 2 = .ok (.putfield 9, 3) := by decide +kernel
theorem dX4_remake_5 : decode cX4_remake 5 = .ok (.aload_n 0, 1) := by decide +kernel
theorem dX4_remake_6 : decode cX4_remake 6 = .ok (.iload_n 1, 1) := by decide +kernel
theorem dX4_remake_7 : decode cX4_remake 7 = .ok (.ifCond .ne 7, 3) := by decide +kernel
theorem dX4_remake_10 : decode cX4_remake 10 = .ok (.iconst 0, 1) := by decide +kernel
theorem dX4_remake_11 : decode cX4_remake 11 = .ok (.goto 4, 3) := by decide +kernel
theorem dX4_remake_14 : decode cX4_remake 14 = .ok (.iload_n 2, 1) := by decide +kernel
theorem dX4_remake_15 : decode cX4_remake 15 = .ok (.putfield 15, 3) := by decide +kernel
theorem dX4_remake_18 : decode cX4_remake 18 = .ok (.aload_n 0, 1) := by decide +kernel
theorem dX4_remake_19 : decode cX4_remake 19 = .ok (.getfield 18, 3) := by decide +kernel
theorem dX4_remake_22 : decode cX4_remake 22 = .ok (.iconst 0, 1) := by decide +kernel
theorem dX4_remake_23 : decode cX4_remake 23 = .ok (.invokestatic 22, 3) := by decide +kernel
theorem dX4_remake_26 : decode cX4_remake 26 = .ok (.return_, 1) := by decide +kernel
theorem dX4_set_0 : decode cX4_set 0 = .ok (.aload_n 0, 1) := by decide +kernel
theorem dX4_set_1 : decode cX4_set 1 = .ok (.getfield 9, 3) := by decide +kernel
theorem dX4_set_4 : decode cX4_set 4 = .ok (.lookupswitch 50 #[(8, 28), (16, 39)], 28) := by decide +kernel
theorem dX4_set_32 : decode cX4_set 32 = .ok (.aload_n 0, 1) := by decide +kernel
theorem dX4_set_33 : decode cX4_set 33 = .ok (.getfield 18, 3) := by decide +kernel
theorem dX4_set_36 : decode cX4_set 36 = .ok (.iload_n 1, 1) := by decide +kernel
theorem dX4_set_37 : decode cX4_set 37 = .ok (.iload_n 2, 1) := by decide +kernel
theorem dX4_set_38 : decode cX4_set 38 = .ok (.i2b, 1) := by decide +kernel
theorem dX4_set_39 : decode cX4_set 39 = .ok (.iastore, 1) := by decide +kernel
theorem dX4_set_40 : decode cX4_set 40 = .ok (.goto 21, 3) := by decide +kernel
theorem dX4_set_43 : decode cX4_set 43 = .ok (.aload_n 0, 1) := by decide +kernel
theorem dX4_set_44 : decode cX4_set 44 = .ok (.getfield 18, 3) := by decide +kernel
theorem dX4_set_47 : decode cX4_set 47 = .ok (.iload_n 1, 1) := by decide +kernel
theorem dX4_set_48 : decode cX4_set 48 = .ok (.iload_n 2, 1) := by decide +kernel
theorem dX4_set_49 : decode cX4_set 49 = .ok (.i2s, 1) := by decide +kernel
theorem dX4_set_50 : decode cX4_set 50 = .ok (.iastore, 1) := by decide +kernel
theorem dX4_set_51 : decode cX4_set 51 = .ok (.goto 10, 3) := by decide +kernel
theorem dX4_set_54 : decode cX4_set 54 = .ok (.aload_n 0, 1) := by decide +kernel
theorem dX4_set_55 : decode cX4_set 55 = .ok (.getfield 18, 3) := by decide +kernel
theorem dX4_set_58 : decode cX4_set 58 = .ok (.iload_n 1, 1) := by decide +kernel
theorem dX4_set_59 : decode cX4_set 59 = .ok (.iload_n 2, 1) := by decide +kernel
theorem dX4_set_60 : decode cX4_set 60 = .ok (.iastore, 1) := by decide +kernel
theorem dX4_set_61 : decode cX4_set 61 = .ok (.return_, 1) := by decide +kernel
theorem dX4_hasRange_0 : decode cX4_hasRange 0 = .ok (.iload_n 2, 1) := by decide +kernel
theorem dX4_hasRange_1 : decode cX4_hasRange 1 = .ok (.ifCond .lt 29, 3) := by decide +kernel
theorem dX4_hasRange_4 : decode cX4_hasRange 4 = .ok (.iload_n 1, 1) := by decide +kernel
theorem dX4_hasRange_5 : decode cX4_hasRange 5 = .ok (.ifCond .lt 25, 3) := by decide +kernel
theorem dX4_hasRange_8 : decode cX4_hasRange 8 = .ok (.iload_n 2, 1) := by decide +kernel
theorem dX4_hasRange_9 : decode cX4_hasRange 9 = .ok (.aload_n 0, 1) := by decide +kernel
theorem dX4_hasRange_10 : decode cX4_hasRange 10 = .ok (.getfield 15, 3) := by decide +kernel
theorem dX4_hasRange_13 : decode cX4_hasRange 13 = .ok (.if_icmp .gt 17, 3) := by decide +kernel
theorem dX4_hasRange_16 : decode cX4_hasRange 16 = .ok (.iload_n 1, 1) := by decide +kernel
theorem dX4_hasRange_17 : decode cX4_hasRange 17 = .ok (.aload_n 0, 1) := by decide +kernel
theorem dX4_hasRange_18 : decode cX4_hasRange 18 = .ok (.getfield 15, 3) := by decide +kernel
theorem dX4_hasRange_21 : decode cX4_hasRange 21 = .ok (.iload_n 2, 1) := by decide +kernel
theorem dX4_hasRange_22 : decode cX4_hasRange 22 = .ok (.isub, 1) := by decide +kernel
theorem dX4_hasRange_23 : decode cX4_hasRange 23 = .ok (.if_icmp .gt 7, 3) := by decide +kernel
theorem dX4_hasRange_26 : decode cX4_hasRange 26 = .ok (.iconst 1, 1) := by decide +kernel
theorem dX4_hasRange_27 : decode cX4_hasRange 27 = .ok (.goto 4, 3) := by decide +kernel
theorem dX4_hasRange_30 : decode cX4_hasRange 30 = .ok (.iconst 0, 1) := by decide +kernel
theorem dX4_hasRange_31 : decode cX4_hasRange 31 = .ok (.ireturn, 1) := by decide +kernel
theorem dX5_init_0 : decode cX5_init 0 = .ok (.aload_n 0, 1) := by decide +kernel
theorem dX5_init_1 : decode cX5_init 1 = .ok (.invokespecial 3, 3) := by decide +kernel
theorem dX5_init_4 : decode cX5_init 4 = .ok (.aload_n 0, 1) := by decide +kernel
theorem dX5_init_5 : decode cX5_init 5 = .ok (.iconst 0, 1) := by decide +kernel
theorem dX5_init_6 : decode cX5_init 6 = .ok (.putfield 9, 3) := by decide +kernel
theorem dX5_init_9 : decode cX5_init 9 = .ok (.aload_n 0, 1) := by decide +kernel
theorem dX5_init_10 : decode cX5_init 10 = .ok (.iconst 0, 1) := by decide +kernel
theorem dX5_init_11 : decode cX5_init 11 = .ok (.putfield 15, 3) := by decide +kernel
theorem dX5_init_14 : decode cX5_init 14 = .ok (.aload_n 0, 1) := by decide +kernel
theorem dX5_init_15 : decode cX5_init 15 = .ok (.iconst 1, 1) := by decide +kernel
theorem dX5_init_16 : decode cX5_init 16 = .ok (.putfield 18, 3) := by decide +kernel
theorem dX5_init_19 : decode cX5_init 19 = .ok (.aload_n 0, 1) := by decide +kernel
theorem dX5_init_20 : decode cX5_init 20 = .ok (.iconst 5, 1) := by decide +kernel
theorem dX5_init_21 : decode cX5_init 21 = .ok (.putfield 21, 3) := by decide +kernel
theorem dX5_init_24 : decode cX5_init 24 = .ok (.aload_n 0, 1) := by decide +kernel
theorem dX5_init_25 : decode cX5_init 25 = .ok (.iconst 0, 1) := by decide +kernel
theorem dX5_init_26 : decode cX5_init 26 = .ok (.putfield 24, 3) := by decide +kernel
theorem dX5_init_29 : decode cX5_init 29 = .ok (.return_, 1) := by decide +kernel
theorem dX5_takeFrom_0 : decode cX5_takeFrom 0 = .ok (.aload_n 0, 1) := by decide +kernel
theorem dX5_takeFrom_1 : decode cX5_takeFrom 1 = .ok (.aload_n 1, 1) := by decide +kernel
theorem dX5_takeFrom_2 : decode cX5_takeFrom 2 = .ok (.getfield 9, 3) := by decide +kernel
theorem dX5_takeFrom_5 : decode cX5_takeFrom 5 = .ok (.putfield 9, 3) := by decide +kernel
theorem dX5_takeFrom_8 : decode cX5_takeFrom 8 = .ok (.aload_n 0, 1) := by decide +kernel
theorem dX5_takeFrom_9 : decode cX5_takeFrom 9 = .ok (.aload_n 1, 1) := by decide +kernel
theorem dX5_takeFrom_10 : decode cX5_takeFrom 10 = .ok (.getfield 15, 3) := by decide +kernel
theorem dX5_takeFrom_13 : decode cX5_takeFrom 13 = .ok (.putfield 15, 3) := by decide +kernel
theorem dX5_takeFrom_16 : decode cX5_takeFrom 16 = .ok (.aload_n 0, 1) := by decide +kernel
theorem dX5_takeFrom_17 : decode cX5_takeFrom 17 = .ok (.aload_n 1, 1) := by decide +kernel
theorem dX5_takeFrom_18 : decode cX5_takeFrom 18 = .ok (.getfield 18, 3) := by decide +kernel
theorem dX5_takeFrom_21 : decode cX5_takeFrom 21 = .ok (.putfield 18, 3) := by decide +kernel
theorem dX5_takeFrom_24 : decode cX5_takeFrom 24 = .ok (.aload_n 0, 1) := by decide +kernel
theorem dX5_takeFrom_25 : decode cX5_takeFrom 25 = .ok (.aload_n 1, 1) := by decide +kernel
theorem dX5_takeFrom_26 : decode cX5_takeFrom 26 = .ok (.getfield 21, 3) := by decide +kernel
theorem dX5_takeFrom_29 : decode cX5_takeFrom 29 = .ok (.putfield 21, 3) := by decide +kernel
theorem dX5_takeFrom_32 : decode cX5_takeFrom 32 = .ok (.aload_n 0, 1) := by decide +kernel
theorem dX5_takeFrom_33 : decode cX5_takeFrom 33 = .ok (.aload_n 1, 1) := by decide +kernel
theorem dX5_takeFrom_34 : decode cX5_takeFrom 34 = .ok (.getfield 24, 3) := by decide +kernel
theorem dX5_takeFrom_37 : decode cX5_takeFrom 37 = .ok (.putfield 24, 3) := by decide +kernel
theorem dX5_takeFrom_40 : decode cX5_takeFrom 40 = .ok (.return_, 1) := by decide +kernel
theorem dX5_across_0 : decode cX5_across 0 = .ok (.iload_n 1, 1) := by decide +kernel
theorem dX5_across_1 : decode cX5_across 1 = .ok (.aload_n 0, 1) := by decide +kernel
theorem dX5_across_2 : decode cX5_across 2 = .ok (.getfield 15, 3) := by decide +kernel
theorem dX5_across_5 : decode cX5_across 5 = .ok (.if_icmp .ne 8, 3) := by decide +kernel
theorem dX5_across_8 : decode cX5_across 8 = .ok (.aload_n 0, 1) := by decide +kernel
theorem dX5_across_9 : decode cX5_across 9 = .ok (.getfield 18, 3) := by decide +kernel
theorem dX5_across_12 : decode cX5_across 12 = .ok (.ireturn, 1) := by decide +kernel
theorem dX5_across_13 : decode cX5_across 13 = .ok (.iload_n 1, 1) := by decide +kernel
theorem dX5_across_14 : decode cX5_across 14 = .ok (.aload_n 0, 1) := by decide +kernel
theorem dX5_across_15 : decode cX5_across 15 = .ok (.getfield 18, 3) := by decide +kernel
theorem dX5_across_18 : decode cX5_across 18 = .ok (.if_icmp .ne 10, 3) := by decide +kernel
theorem dX5_across_21 : decode cX5_across 21 = .ok (.aload_n 0, 1) := by decide +kernel
theorem dX5_across_22 : decode cX5_across 22 = .ok (.getfield 15, 3) := by decide +kernel
theorem dX5_across_25 : decode cX5_across 25 = .ok (.goto 4, 3) := by decide +kernel
theorem dX5_across_28 : decode cX5_across 28 = .ok (.iconst (-1), 1) := by decide +kernel
theorem dX5_across_29 : decode cX5_across 29 = .ok (.ireturn, 1) := by decide +kernel
theorem dX5_takes_0 : decode cX5_takes 0 = .ok (.aload_n 0, 1) := by decide +kernel
theorem dX5_takes_1 : decode cX5_takes 1 = .ok (.getfield 9, 3) := by decide +kernel
theorem dX5_takes_4 : decode cX5_takes 4 = .ok (.tableswitch 47 4 6 #[28, 40, 40], 28) := by decide +kernel
theorem dX5_takes_32 : decode cX5_takes 32 = .ok (.aload_n 0, 1) := by decide +kernel
theorem dX5_takes_33 : decode cX5_takes 33 = .ok (.getfield 21, 3) := by decide +kernel
theorem dX5_takes_36 : decode cX5_takes 36 = .ok (.aload_n 0, 1) := by decide +kernel
theorem dX5_takes_37 : decode cX5_takes 37 = .ok (.getfield 21, 3) := by decide +kernel
theorem dX5_takes_40 : decode cX5_takes 40 = .ok (.iconst 2, 1) := by decide +kernel
theorem dX5_takes_41 : decode cX5_takes 41 = .ok (.idiv, 1) := by decide +kernel
theorem dX5_takes_42 : decode cX5_takes 42 = .ok (.iadd, 1) := by decide +kernel
theorem dX5_takes_43 : decode cX5_takes 43 = .ok (.ireturn, 1) := by decide +kernel
theorem dX5_takes_44 : decode cX5_takes 44 = .ok (.aload_n 0, 1) := by decide +kernel
theorem dX5_takes_45 : decode cX5_takes 45 = .ok (.getfield 21, 3) := by decide +kernel
theorem dX5_takes_48 : decode cX5_takes 48 = .ok (.iconst 2, 1) := by decide +kernel
theorem dX5_takes_49 : decode cX5_takes 49 = .ok (.iadd, 1) := by decide +kernel
theorem dX5_takes_50 : decode cX5_takes 50 = .ok (.ireturn, 1) := by decide +kernel
theorem dX5_takes_51 : decode cX5_takes 51 = .ok (.aload_n 0, 1) := by decide +kernel
theorem dX5_takes_52 : decode cX5_takes 52 = .ok (.getfield 21, 3) := by decide +kernel
theorem dX5_takes_55 : decode cX5_takes 55 = .ok (.ireturn, 1) := by decide +kernel
theorem dX5_lossBy_0 : decode cX5_lossBy 0 = .ok (.aload_n 0, 1) := by decide +kernel
theorem dX5_lossBy_1 : decode cX5_lossBy 1 = .ok (.getfield 9, 3) := by decide +kernel
theorem dX5_lossBy_4 : decode cX5_lossBy 4 = .ok (.iload_n 1, 1) := by decide +kernel
theorem dX5_lossBy_5 : decode cX5_lossBy 5 = .ok (.invokestatic 27, 3) := by decide +kernel
theorem dX5_lossBy_8 : decode cX5_lossBy 8 = .ok (.istore 4, 2) := by decide +kernel
theorem dX5_lossBy_10 : decode cX5_lossBy 10 = .ok (.aload_n 0, 1) := by decide +kernel
theorem dX5_lossBy_11 : decode cX5_lossBy 11 = .ok (.getfield 24, 3) := by decide +kernel
theorem dX5_lossBy_14 : decode cX5_lossBy 14 = .ok (.iconst 1, 1) := by decide +kernel
theorem dX5_lossBy_15 : decode cX5_lossBy 15 = .ok (.if_icmp .ne 7, 3) := by decide +kernel
theorem dX5_lossBy_18 : decode cX5_lossBy 18 = .ok (.iconst 0, 1) := by decide +kernel
theorem dX5_lossBy_19 : decode cX5_lossBy 19 = .ok (.goto 11, 3) := by decide +kernel
theorem dX5_lossBy_22 : decode cX5_lossBy 22 = .ok (.aload_n 0, 1) := by decide +kernel
theorem dX5_lossBy_23 : decode cX5_lossBy 23 = .ok (.getfield 9, 3) := by decide +kernel
theorem dX5_lossBy_26 : decode cX5_lossBy 26 = .ok (.iload_n 2, 1) := by decide +kernel
theorem dX5_lossBy_27 : decode cX5_lossBy 27 = .ok (.invokestatic 31, 3) := by decide +kernel
theorem dX5_lossBy_30 : decode cX5_lossBy 30 = .ok (.istore 5, 2) := by decide +kernel
theorem dX5_lossBy_32 : decode cX5_lossBy 32 = .ok (.iload_n 3, 1) := by decide +kernel
theorem dX5_lossBy_33 : decode cX5_lossBy 33 = .ok (.iconst 1, 1) := by decide +kernel
theorem dX5_lossBy_34 : decode cX5_lossBy 34 = .ok (.if_icmp .ne 15, 3) := by decide +kernel
theorem dX5_lossBy_37 : decode cX5_lossBy 37 = .ok (.iload 4, 2) := by decide +kernel
theorem dX5_lossBy_39 : decode cX5_lossBy 39 = .ok (.iconst 2, 1) := by decide +kernel
theorem dX5_lossBy_40 : decode cX5_lossBy 40 = .ok (.idiv, 1) := by decide +kernel
theorem dX5_lossBy_41 : decode cX5_lossBy 41 = .ok (.iload 5, 2) := by decide +kernel
theorem dX5_lossBy_43 : decode cX5_lossBy 43 = .ok (.iconst 2, 1) := by decide +kernel
theorem dX5_lossBy_44 : decode cX5_lossBy 44 = .ok (.imul, 1) := by decide +kernel
theorem dX5_lossBy_45 : decode cX5_lossBy 45 = .ok (.iadd, 1) := by decide +kernel
theorem dX5_lossBy_46 : decode cX5_lossBy 46 = .ok (.goto 16, 3) := by decide +kernel
theorem dX5_lossBy_49 : decode cX5_lossBy 49 = .ok (.iload 4, 2) := by decide +kernel
theorem dX5_lossBy_51 : decode cX5_lossBy 51 = .ok (.iload 5, 2) := by decide +kernel
theorem dX5_lossBy_53 : decode cX5_lossBy 53 = .ok (.iadd, 1) := by decide +kernel
theorem dX5_lossBy_54 : decode cX5_lossBy 54 = .ok (.aload_n 0, 1) := by decide +kernel
theorem dX5_lossBy_55 : decode cX5_lossBy 55 = .ok (.getfield 9, 3) := by decide +kernel
theorem dX5_lossBy_58 : decode cX5_lossBy 58 = .ok (.invokestatic 34, 3) := by decide +kernel
theorem dX5_lossBy_61 : decode cX5_lossBy 61 = .ok (.iadd, 1) := by decide +kernel
theorem dX5_lossBy_62 : decode cX5_lossBy 62 = .ok (.ireturn, 1) := by decide +kernel
theorem dX5_meltsBySun_0 : decode cX5_meltsBySun 0 = .ok (.iconst 2, 1) := by decide +kernel
theorem dX5_meltsBySun_1 : decode cX5_meltsBySun 1 = .ok (.iload_n 1, 1) := by decide +kernel
theorem dX5_meltsBySun_2 : decode cX5_meltsBySun 2 = .ok (.imul, 1) := by decide +kernel
theorem dX5_meltsBySun_3 : decode cX5_meltsBySun 3 = .ok (.istore_n 2, 1) := by decide +kernel
theorem dX5_meltsBySun_4 : decode cX5_meltsBySun 4 = .ok (.iload_n 0, 1) := by decide +kernel
theorem dX5_meltsBySun_5 : decode cX5_meltsBySun 5 = .ok (.tableswitch 45 1 4 #[31, 35, 43, 35], 31) := by decide +kernel
theorem dX5_meltsBySun_36 : decode cX5_meltsBySun 36 = .ok (.iload_n 2, 1) := by decide +kernel
theorem dX5_meltsBySun_37 : decode cX5_meltsBySun 37 = .ok (.iconst 2, 1) := by decide +kernel
theorem dX5_meltsBySun_38 : decode cX5_meltsBySun 38 = .ok (.idiv, 1) := by decide +kernel
theorem dX5_meltsBySun_39 : decode cX5_meltsBySun 39 = .ok (.ireturn, 1) := by decide +kernel
theorem dX5_meltsBySun_40 : decode cX5_meltsBySun 40 = .ok (.iconst 0, 1) := by decide +kernel
theorem dX5_meltsBySun_41 : decode cX5_meltsBySun 41 = .ok (.iload_n 2, 1) := by decide +kernel
theorem dX5_meltsBySun_42 : decode cX5_meltsBySun 42 = .ok (.iconst 3, 1) := by decide +kernel
theorem dX5_meltsBySun_43 : decode cX5_meltsBySun 43 = .ok (.isub, 1) := by decide +kernel
theorem dX5_meltsBySun_44 : decode cX5_meltsBySun 44 = .ok (.invokestatic 38, 3) := by decide +kernel
theorem dX5_meltsBySun_47 : decode cX5_meltsBySun 47 = .ok (.ireturn, 1) := by decide +kernel
theorem dX5_meltsBySun_48 : decode cX5_meltsBySun 48 = .ok (.iconst 0, 1) := by decide +kernel
theorem dX5_meltsBySun_49 : decode cX5_meltsBySun 49 = .ok (.ireturn, 1) := by decide +kernel
theorem dX5_meltsBySun_50 : decode cX5_meltsBySun 50 = .ok (.iload_n 2, 1) := by decide +kernel
theorem dX5_meltsBySun_51 : decode cX5_meltsBySun 51 = .ok (.ireturn, 1) := by decide +kernel
theorem dX5_wets_0 : decode cX5_wets 0 = .ok (.iload_n 0, 1) := by decide +kernel
theorem dX5_wets_1 : decode cX5_wets 1 = .ok (.tableswitch 35 2 4 #[29, 27, 29], 27) := by decide +kernel
theorem dX5_wets_28 : decode cX5_wets 28 = .ok (.iconst 0, 1) := by decide +kernel
theorem dX5_wets_29 : decode cX5_wets 29 = .ok (.ireturn, 1) := by decide +kernel
theorem dX5_wets_30 : decode cX5_wets 30 = .ok (.iconst 5, 1) := by decide +kernel
theorem dX5_wets_31 : decode cX5_wets 31 = .ok (.iload_n 1, 1) := by decide +kernel
theorem dX5_wets_32 : decode cX5_wets 32 = .ok (.imul, 1) := by decide +kernel
theorem dX5_wets_33 : decode cX5_wets 33 = .ok (.iload_n 1, 1) := by decide +kernel
theorem dX5_wets_34 : decode cX5_wets 34 = .ok (.iadd, 1) := by decide +kernel
theorem dX5_wets_35 : decode cX5_wets 35 = .ok (.ireturn, 1) := by decide +kernel
theorem dX5_wets_36 : decode cX5_wets 36 = .ok (.iconst 5, 1) := by decide +kernel
theorem dX5_wets_37 : decode cX5_wets 37 = .ok (.iload_n 1, 1) := by decide +kernel
theorem dX5_wets_38 : decode cX5_wets 38 = .ok (.imul, 1) := by decide +kernel
theorem dX5_wets_39 : decode cX5_wets 39 = .ok (.ireturn, 1) := by decide +kernel
theorem dX5_licks_0 : decode cX5_licks 0 = .ok (.iload_n 0, 1) := by decide +kernel
theorem dX5_licks_1 : decode cX5_licks 1 = .ok (.lookupswitch 31 #[(5, 27), (6, 29)], 27) := by decide +kernel
theorem dX5_licks_28 : decode cX5_licks 28 = .ok (.iconst 2, 1) := by decide +kernel
theorem dX5_licks_29 : decode cX5_licks 29 = .ok (.ireturn, 1) := by decide +kernel
theorem dX5_licks_30 : decode cX5_licks 30 = .ok (.iconst 5, 1) := by decide +kernel
theorem dX5_licks_31 : decode cX5_licks 31 = .ok (.ireturn, 1) := by decide +kernel
theorem dX5_licks_32 : decode cX5_licks 32 = .ok (.iconst 0, 1) := by decide +kernel
theorem dX5_licks_33 : decode cX5_licks 33 = .ok (.ireturn, 1) := by decide +kernel
theorem dX5_above_0 : decode cX5_above 0 = .ok (.iload_n 0, 1) := by decide +kernel
theorem dX5_above_1 : decode cX5_above 1 = .ok (.tableswitch 47 1 6 #[39, 39, 41, 43, 39, 45], 39) := by decide +kernel
theorem dX5_above_40 : decode cX5_above 40 = .ok (.iconst 0, 1) := by decide +kernel
theorem dX5_above_41 : decode cX5_above 41 = .ok (.ireturn, 1) := by decide +kernel
theorem dX5_above_42 : decode cX5_above 42 = .ok (.iconst 1, 1) := by decide +kernel
theorem dX5_above_43 : decode cX5_above 43 = .ok (.ireturn, 1) := by decide +kernel
theorem dX5_above_44 : decode cX5_above 44 = .ok (.iconst 2, 1) := by decide +kernel
theorem dX5_above_45 : decode cX5_above 45 = .ok (.ireturn, 1) := by decide +kernel
theorem dX5_above_46 : decode cX5_above 46 = .ok (.iconst 5, 1) := by decide +kernel
theorem dX5_above_47 : decode cX5_above 47 = .ok (.ireturn, 1) := by decide +kernel
theorem dX5_above_48 : decode cX5_above 48 = .ok (.iconst (-1), 1) := by decide +kernel
theorem dX5_above_49 : decode cX5_above 49 = .ok (.ireturn, 1) := by decide +kernel
theorem dX5_isUnder_0 : decode cX5_isUnder 0 = .ok (.iload_n 0, 1) := by decide +kernel
theorem dX5_isUnder_1 : decode cX5_isUnder 1 = .ok (.istore_n 2, 1) := by decide +kernel
theorem dX5_isUnder_2 : decode cX5_isUnder 2 = .ok (.iconst 0, 1) := by decide +kernel
theorem dX5_isUnder_3 : decode cX5_isUnder 3 = .ok (.istore_n 3, 1) := by decide +kernel
theorem dX5_isUnder_4 : decode cX5_isUnder 4 = .ok (.iload_n 3, 1) := by decide +kernel
theorem dX5_isUnder_5 : decode cX5_isUnder 5 = .ok (.bipush 7, 2) := by decide +kernel
theorem dX5_isUnder_7 : decode cX5_isUnder 7 = .ok (.if_icmp .ge 25, 3) := by decide +kernel
theorem dX5_isUnder_10 : decode cX5_isUnder 10 = .ok (.iload_n 2, 1) := by decide +kernel
theorem dX5_isUnder_11 : decode cX5_isUnder 11 = .ok (.ifCond .lt 21, 3) := by decide +kernel
theorem dX5_isUnder_14 : decode cX5_isUnder 14 = .ok (.iload_n 2, 1) := by decide +kernel
theorem dX5_isUnder_15 : decode cX5_isUnder 15 = .ok (.iload_n 1, 1) := by decide +kernel
theorem dX5_isUnder_16 : decode cX5_isUnder 16 = .ok (.if_icmp .ne 5, 3) := by decide +kernel
theorem dX5_isUnder_19 : decode cX5_isUnder 19 = .ok (.iconst 1, 1) := by decide +kernel
theorem dX5_isUnder_20 : decode cX5_isUnder 20 = .ok (.ireturn, 1) := by decide +kernel
theorem dX5_isUnder_21 : decode cX5_isUnder 21 = .ok (.iload_n 2, 1) := by decide +kernel
theorem dX5_isUnder_22 : decode cX5_isUnder 22 = .ok (.invokestatic 43, 3) := by decide +kernel
theorem dX5_isUnder_25 : decode cX5_isUnder 25 = .ok (.istore_n 2, 1) := by decide +kernel
theorem dX5_isUnder_26 : decode cX5_isUnder 26 = .ok (.iinc 3 1, 3) := by decide +kernel
theorem dX5_isUnder_29 : decode cX5_isUnder 29 = .ok (.goto (-25), 3) := by decide +kernel
theorem dX5_isUnder_32 : decode cX5_isUnder 32 = .ok (.iconst 0, 1) := by decide +kernel
theorem dX5_isUnder_33 : decode cX5_isUnder 33 = .ok (.ireturn, 1) := by decide +kernel
theorem dX6_init_0 : decode cX6_init 0 = .ok (.aload_n 0, 1) := by decide +kernel
theorem dX6_init_1 : decode cX6_init 1 = .ok (.invokespecial 3, 3) := by decide +kernel
theorem dX6_init_4 : decode cX6_init 4 = .ok (.aload_n 0, 1) := by decide +kernel
theorem dX6_init_5 : decode cX6_init 5 = .ok (.bipush 14, 2) := by decide +kernel
theorem dX6_init_7 : decode cX6_init 7 = .ok (.anewarray 9, 3) := by decide +kernel
theorem dX6_init_10 : decode cX6_init 10 = .ok (.putfield 11, 3) := by decide +kernel
theorem dX6_init_13 : decode cX6_init 13 = .ok (.aload_n 0, 1) := by decide +kernel
theorem dX6_init_14 : decode cX6_init 14 = .ok (.iconst 0, 1) := by decide +kernel
theorem dX6_init_15 : decode cX6_init 15 = .ok (.putfield 17, 3) := by decide +kernel
theorem dX6_init_18 : decode cX6_init 18 = .ok (.aload_n 0, 1) := by decide +kernel
theorem dX6_init_19 : decode cX6_init 19 = .ok (.bipush 8, 2) := by decide +kernel
theorem dX6_init_21 : decode cX6_init 21 = .ok (.newarray .int, 2) := by decide +kernel
theorem dX6_init_23 : decode cX6_init 23 = .ok (.putfield 21, 3) := by decide +kernel
theorem dX6_init_26 : decode cX6_init 26 = .ok (.aload_n 0, 1) := by decide +kernel
theorem dX6_init_27 : decode cX6_init 27 = .ok (.bipush 12, 2) := by decide +kernel
theorem dX6_init_29 : decode cX6_init 29 = .ok (.newarray .int, 2) := by decide +kernel
theorem dX6_init_31 : decode cX6_init 31 = .ok (.putfield 25, 3) := by decide +kernel
theorem dX6_init_34 : decode cX6_init 34 = .ok (.aload_n 0, 1) := by decide +kernel
theorem dX6_init_35 : decode cX6_init 35 = .ok (.bipush 12, 2) := by decide +kernel
theorem dX6_init_37 : decode cX6_init 37 = .ok (.newarray .int, 2) := by decide +kernel
theorem dX6_init_39 : decode cX6_init 39 = .ok (.putfield 28, 3) := by decide +kernel
theorem dX6_init_42 : decode cX6_init 42 = .ok (.aload_n 0, 1) := by decide +kernel
theorem dX6_init_43 : decode cX6_init 43 = .ok (.bipush 12, 2) := by decide +kernel
theorem dX6_init_45 : decode cX6_init 45 = .ok (.newarray .int, 2) := by decide +kernel
theorem dX6_init_47 : decode cX6_init 47 = .ok (.putfield 31, 3) := by decide +kernel
theorem dX6_init_50 : decode cX6_init 50 = .ok (.iconst 0, 1) := by decide +kernel
theorem dX6_init_51 : decode cX6_init 51 = .ok (.istore_n 1, 1) := by decide +kernel
theorem dX6_init_52 : decode cX6_init 52 = .ok (.iload_n 1, 1) := by decide +kernel
theorem dX6_init_53 : decode cX6_init 53 = .ok (.bipush 14, 2) := by decide +kernel
theorem dX6_init_55 : decode cX6_init 55 = .ok (.if_icmp .ge 22, 3) := by decide +kernel
theorem dX6_init_58 : decode cX6_init 58 = .ok (.aload_n 0, 1) := by decide +kernel
theorem dX6_init_59 : decode cX6_init 59 = .ok (.getfield 11, 3) := by decide +kernel
theorem dX6_init_62 : decode cX6_init 62 = .ok (.iload_n 1, 1) := by decide +kernel
theorem dX6_init_63 : decode cX6_init 63 = .ok (.new 9, 3) := by decide +kernel
theorem dX6_init_66 : decode cX6_init 66 = .ok (.dup, 1) := by decide +kernel
theorem dX6_init_67 : decode cX6_init 67 = .ok (.invokespecial 34, 3) := by decide +kernel
theorem dX6_init_70 : decode cX6_init 70 = .ok (.aastore, 1) := by decide +kernel
theorem dX6_init_71 : decode cX6_init 71 = .ok (.iinc 1 1, 3) := by decide +kernel
theorem dX6_init_74 : decode cX6_init 74 = .ok (.goto (-22), 3) := by decide +kernel
theorem dX6_init_77 : decode cX6_init 77 = .ok (.iconst 0, 1) := by decide +kernel
theorem dX6_init_78 : decode cX6_init 78 = .ok (.istore_n 1, 1) := by decide +kernel
theorem dX6_init_79 : decode cX6_init 79 = .ok (.iload_n 1, 1) := by decide +kernel
theorem dX6_init_80 : decode cX6_init 80 = .ok (.bipush 8, 2) := by decide +kernel
theorem dX6_init_82 : decode cX6_init 82 = .ok (.if_icmp .ge 18, 3) := by decide +kernel
theorem dX6_init_85 : decode cX6_init 85 = .ok (.aload_n 0, 1) := by decide +kernel
theorem dX6_init_86 : decode cX6_init 86 = .ok (.getfield 21, 3) := by decide +kernel
theorem dX6_init_89 : decode cX6_init 89 = .ok (.iload_n 1, 1) := by decide +kernel
theorem dX6_init_90 : decode cX6_init 90 = .ok (.iload_n 1, 1) := by decide +kernel
theorem dX6_init_91 : decode cX6_init 91 = .ok (.iconst 4, 1) := by decide +kernel
theorem dX6_init_92 : decode cX6_init 92 = .ok (.irem, 1) := by decide +kernel
theorem dX6_init_93 : decode cX6_init 93 = .ok (.iastore, 1) := by decide +kernel
theorem dX6_init_94 : decode cX6_init 94 = .ok (.iinc 1 1, 3) := by decide +kernel
theorem dX6_init_97 : decode cX6_init 97 = .ok (.goto (-18), 3) := by decide +kernel
theorem dX6_init_100 : decode cX6_init 100 = .ok (.iconst 0, 1) := by decide +kernel
theorem dX6_init_101 : decode cX6_init 101 = .ok (.istore_n 1, 1) := by decide +kernel
theorem dX6_init_102 : decode cX6_init 102 = .ok (.iload_n 1, 1) := by decide +kernel
theorem dX6_init_103 : decode cX6_init 103 = .ok (.bipush 12, 2) := by decide +kernel
theorem dX6_init_105 : decode cX6_init 105 = .ok (.if_icmp .ge 16, 3) := by decide +kernel
theorem dX6_init_108 : decode cX6_init 108 = .ok (.aload_n 0, 1) := by decide +kernel
theorem dX6_init_109 : decode cX6_init 109 = .ok (.getfield 25, 3) := by decide +kernel
theorem dX6_init_112 : decode cX6_init 112 = .ok (.iload_n 1, 1) := by decide +kernel
theorem dX6_init_113 : decode cX6_init 113 = .ok (.iconst 3, 1) := by decide +kernel
theorem dX6_init_114 : decode cX6_init 114 = .ok (.iastore, 1) := by decide +kernel
theorem dX6_init_115 : decode cX6_init 115 = .ok (.iinc 1 1, 3) := by decide +kernel
theorem dX6_init_118 : decode cX6_init 118 = .ok (.goto (-16), 3) := by decide +kernel
theorem dX6_init_121 : decode cX6_init 121 = .ok (.return_, 1) := by decide +kernel
theorem dX6_takeFrom_0 : decode cX6_takeFrom 0 = .ok (.aload_n 0, 1) := by decide +kernel
theorem dX6_takeFrom_1 : decode cX6_takeFrom 1 = .ok (.aload_n 1, 1) := by decide +kernel
theorem dX6_takeFrom_2 : decode cX6_takeFrom 2 = .ok (.getfield 17, 3) := by decide +kernel
theorem dX6_takeFrom_5 : decode cX6_takeFrom 5 = .ok (.putfield 17, 3) := by decide +kernel
theorem dX6_takeFrom_8 : decode cX6_takeFrom 8 = .ok (.iconst 0, 1) := by decide +kernel
theorem dX6_takeFrom_9 : decode cX6_takeFrom 9 = .ok (.istore_n 2, 1) := by decide +kernel
theorem dX6_takeFrom_10 : decode cX6_takeFrom 10 = .ok (.iload_n 2, 1) := by decide +kernel
theorem dX6_takeFrom_11 : decode cX6_takeFrom 11 = .ok (.aload_n 0, 1) := by decide +kernel
theorem dX6_takeFrom_12 : decode cX6_takeFrom 12 = .ok (.getfield 17, 3) := by decide +kernel
theorem dX6_takeFrom_15 : decode cX6_takeFrom 15 = .ok (.if_icmp .ge 24, 3) := by decide +kernel
theorem dX6_takeFrom_18 : decode cX6_takeFrom 18 = .ok (.aload_n 0, 1) := by decide +kernel
theorem dX6_takeFrom_19 : decode cX6_takeFrom 19 = .ok (.getfield 11, 3) := by decide +kernel
theorem dX6_takeFrom_22 : decode cX6_takeFrom 22 = .ok (.iload_n 2, 1) := by decide +kernel
theorem dX6_takeFrom_23 : decode cX6_takeFrom 23 = .ok (.aaload, 1) := by decide +kernel
theorem dX6_takeFrom_24 : decode cX6_takeFrom 24 = .ok (.aload_n 1, 1) := by decide +kernel
theorem dX6_takeFrom_25 : decode cX6_takeFrom 25 = .ok (.getfield 11, 3) := by decide +kernel
theorem dX6_takeFrom_28 : decode cX6_takeFrom 28 = .ok (.iload_n 2, 1) := by decide +kernel
theorem dX6_takeFrom_29 : decode cX6_takeFrom 29 = .ok (.aaload, 1) := by decide +kernel
theorem dX6_takeFrom_30 : decode cX6_takeFrom 30 = .ok (.invokevirtual 35, 3) := by decide +kernel
theorem dX6_takeFrom_33 : decode cX6_takeFrom 33 = .ok (.iinc 2 1, 3) := by decide +kernel
theorem dX6_takeFrom_36 : decode cX6_takeFrom 36 = .ok (.goto (-26), 3) := by decide +kernel
theorem dX6_takeFrom_39 : decode cX6_takeFrom 39 = .ok (.aload_n 1, 1) := by decide +kernel
theorem dX6_takeFrom_40 : decode cX6_takeFrom 40 = .ok (.getfield 21, 3) := by decide +kernel
theorem dX6_takeFrom_43 : decode cX6_takeFrom 43 = .ok (.iconst 0, 1) := by decide +kernel
theorem dX6_takeFrom_44 : decode cX6_takeFrom 44 = .ok (.aload_n 0, 1) := by decide +kernel
theorem dX6_takeFrom_45 : decode cX6_takeFrom 45 = .ok (.getfield 21, 3) := by decide +kernel
theorem dX6_takeFrom_48 : decode cX6_takeFrom 48 = .ok (.iconst 0, 1) := by decide +kernel
theorem dX6_takeFrom_49 : decode cX6_takeFrom 49 = .ok (.bipush 8, 2) := by decide +kernel
theorem dX6_takeFrom_51 : decode cX6_takeFrom 51 = .ok (.invokestatic 39, 3) := by decide +kernel
theorem dX6_takeFrom_54 : decode cX6_takeFrom 54 = .ok (.aload_n 1, 1) := by decide +kernel
theorem dX6_takeFrom_55 : decode cX6_takeFrom 55 = .ok (.getfield 25, 3) := by decide +kernel
theorem dX6_takeFrom_58 : decode cX6_takeFrom 58 = .ok (.iconst 0, 1) := by decide +kernel
theorem dX6_takeFrom_59 : decode cX6_takeFrom 59 = .ok (.aload_n 0, 1) := by decide +kernel
theorem dX6_takeFrom_60 : decode cX6_takeFrom 60 = .ok (.getfield 25, 3) := by decide +kernel
theorem dX6_takeFrom_63 : decode cX6_takeFrom 63 = .ok (.iconst 0, 1) := by decide +kernel
theorem dX6_takeFrom_64 : decode cX6_takeFrom 64 = .ok (.bipush 12, 2) := by decide +kernel
theorem dX6_takeFrom_66 : decode cX6_takeFrom 66 = .ok (.invokestatic 39, 3) := by decide +kernel
theorem dX6_takeFrom_69 : decode cX6_takeFrom 69 = .ok (.aload_n 1, 1) := by decide +kernel
theorem dX6_takeFrom_70 : decode cX6_takeFrom 70 = .ok (.getfield 28, 3) := by decide +kernel
theorem dX6_takeFrom_73 : decode cX6_takeFrom 73 = .ok (.iconst 0, 1) := by decide +kernel
theorem dX6_takeFrom_74 : decode cX6_takeFrom 74 = .ok (.aload_n 0, 1) := by decide +kernel
theorem dX6_takeFrom_75 : decode cX6_takeFrom 75 = .ok (.getfield 28, 3) := by decide +kernel
theorem dX6_takeFrom_78 : decode cX6_takeFrom 78 = .ok (.iconst 0, 1) := by decide +kernel
theorem dX6_takeFrom_79 : decode cX6_takeFrom 79 = .ok (.bipush 12, 2) := by decide +kernel
theorem dX6_takeFrom_81 : decode cX6_takeFrom 81 = .ok (.invokestatic 39, 3) := by decide +kernel
theorem dX6_takeFrom_84 : decode cX6_takeFrom 84 = .ok (.return_, 1) := by decide +kernel
theorem dX6_has_0 : decode cX6_has 0 = .ok (.iload_n 1, 1) := by decide +kernel
theorem dX6_has_1 : decode cX6_has 1 = .ok (.iconst 0, 1) := by decide +kernel
theorem dX6_has_2 : decode cX6_has 2 = .ok (.aload_n 0, 1) := by decide +kernel
theorem dX6_has_3 : decode cX6_has 3 = .ok (.getfield 17, 3) := by decide +kernel
theorem dX6_has_6 : decode cX6_has 6 = .ok (.iconst 1, 1) := by decide +kernel
theorem dX6_has_7 : decode cX6_has 7 = .ok (.isub, 1) := by decide +kernel
theorem dX6_has_8 : decode cX6_has 8 = .ok (.invokestatic 45, 3) := by decide +kernel
theorem dX6_has_11 : decode cX6_has 11 = .ok (.ireturn, 1) := by decide +kernel
theorem dX6_isFull_0 : decode cX6_isFull 0 = .ok (.aload_n 0, 1) := by decide +kernel
theorem dX6_isFull_1 : decode cX6_isFull 1 = .ok (.getfield 17, 3) := by decide +kernel
theorem dX6_isFull_4 : decode cX6_isFull 4 = .ok (.bipush 14, 2) := by decide +kernel
theorem dX6_isFull_6 : decode cX6_isFull 6 = .ok (.if_icmp .lt 7, 3) := by decide +kernel
theorem dX6_isFull_9 : decode cX6_isFull 9 = .ok (.iconst 1, 1) := by decide +kernel
theorem dX6_isFull_10 : decode cX6_isFull 10 = .ok (.goto 4, 3) := by decide +kernel
theorem dX6_isFull_13 : decode cX6_isFull 13 = .ok (.iconst 0, 1) := by decide +kernel
theorem dX6_isFull_14 : decode cX6_isFull 14 = .ok (.ireturn, 1) := by decide +kernel
theorem dX6_add_0 : decode cX6_add 0 = .ok (.aload_n 0, 1) := by decide +kernel
theorem dX6_add_1 : decode cX6_add 1 = .ok (.invokevirtual 49, 3) := by decide +kernel
theorem dX6_add_4 : decode cX6_add 4 = .ok (.ifCond .eq 5, 3) := by decide +kernel
theorem dX6_add_7 : decode cX6_add 7 = .ok (.iconst (-1), 1) := by decide +kernel
theorem dX6_add_8 : decode cX6_add 8 = .ok (.ireturn, 1) := by decide +kernel
theorem dX6_add_9 : decode cX6_add 9 = .ok (.aload_n 0, 1) := by decide +kernel
theorem dX6_add_10 : decode cX6_add 10 = .ok (.getfield 11, 3) := by decide +kernel
theorem dX6_add_13 : decode cX6_add 13 = .ok (.aload_n 0, 1) := by decide +kernel
theorem dX6_add_14 : decode cX6_add 14 = .ok (.getfield 17, 3) := by decide +kernel
theorem dX6_add_17 : decode cX6_add 17 = .ok (.aaload, 1) := by decide +kernel
theorem dX6_add_18 : decode cX6_add 18 = .ok (.astore 6, 2) := by decide +kernel
theorem dX6_add_20 : decode cX6_add 20 = .ok (.aload 6, 2) := by decide +kernel
theorem dX6_add_22 : decode cX6_add 22 = .ok (.iload_n 1, 1) := by decide +kernel
theorem dX6_add_23 : decode cX6_add 23 = .ok (.putfield 53, 3) := by decide +kernel
theorem dX6_add_26 : decode cX6_add 26 = .ok (.aload 6, 2) := by decide +kernel
theorem dX6_add_28 : decode cX6_add 28 = .ok (.iload_n 2, 1) := by decide +kernel
theorem dX6_add_29 : decode cX6_add 29 = .ok (.putfield 56, 3) := by decide +kernel
theorem dX6_add_32 : decode cX6_add 32 = .ok (.aload 6, 2) := by decide +kernel
theorem dX6_add_34 : decode cX6_add 34 = .ok (.iload_n 3, 1) := by decide +kernel
theorem dX6_add_35 : decode cX6_add 35 = .ok (.putfield 59, 3) := by decide +kernel
theorem dX6_add_38 : decode cX6_add 38 = .ok (.aload 6, 2) := by decide +kernel
theorem dX6_add_40 : decode cX6_add 40 = .ok (.iload 4, 2) := by decide +kernel
theorem dX6_add_42 : decode cX6_add 42 = .ok (.putfield 62, 3) := by decide +kernel
theorem dX6_add_45 : decode cX6_add 45 = .ok (.aload 6, 2) := by decide +kernel
theorem dX6_add_47 : decode cX6_add 47 = .ok (.iload 5, 2) := by decide +kernel
theorem dX6_add_49 : decode cX6_add 49 = .ok (.putfield 65, 3) := by decide +kernel
theorem dX6_add_52 : decode cX6_add 52 = .ok (.aload_n 0, 1) := by decide +kernel
theorem dX6_add_53 : decode cX6_add 53 = .ok (.dup, 1) := by decide +kernel
theorem dX6_add_54 : decode cX6_add 54 = .ok (.getfield 17, 3) := by decide +kernel
theorem dX6_add_57 : decode cX6_add 57 = .ok (.iconst 1, 1) := by decide +kernel
theorem dX6_add_58 : decode cX6_add 58 = .ok (.iadd, 1) := by decide +kernel
theorem dX6_add_59 : decode cX6_add 59 = .ok (.putfield 17, 3) := by decide +kernel
theorem dX6_add_62 : decode cX6_add 62 = .ok (.aload_n 0, 1) := by decide +kernel
theorem dX6_add_63 : decode cX6_add 63 = .ok (.getfield 17, 3) := by decide +kernel
theorem dX6_add_66 : decode cX6_add 66 = .ok (.iconst 1, 1) := by decide +kernel
theorem dX6_add_67 : decode cX6_add 67 = .ok (.isub, 1) := by decide +kernel
theorem dX6_add_68 : decode cX6_add 68 = .ok (.ireturn, 1) := by decide +kernel
theorem dX6_neighbours_0 : decode cX6_neighbours 0 = .ok (.iconst 0, 1) := by decide +kernel
theorem dX6_neighbours_1 : decode cX6_neighbours 1 = .ok (.istore_n 2, 1) := by decide +kernel
theorem dX6_neighbours_2 : decode cX6_neighbours 2 = .ok (.iconst 0, 1) := by decide +kernel
theorem dX6_neighbours_3 : decode cX6_neighbours 3 = .ok (.istore_n 3, 1) := by decide +kernel
theorem dX6_neighbours_4 : decode cX6_neighbours 4 = .ok (.iload_n 3, 1) := by decide +kernel
theorem dX6_neighbours_5 : decode cX6_neighbours 5 = .ok (.aload_n 0, 1) := by decide +kernel
theorem dX6_neighbours_6 : decode cX6_neighbours 6 = .ok (.getfield 17, 3) := by decide +kernel
theorem dX6_neighbours_9 : decode cX6_neighbours 9 = .ok (.if_icmp .ge 33, 3) := by decide +kernel
theorem dX6_neighbours_12 : decode cX6_neighbours 12 = .ok (.aload_n 0, 1) := by decide +kernel
theorem dX6_neighbours_13 : decode cX6_neighbours 13 = .ok (.getfield 11, 3) := by decide +kernel
theorem dX6_neighbours_16 : decode cX6_neighbours 16 = .ok (.iload_n 3, 1) := by decide +kernel
theorem dX6_neighbours_17 : decode cX6_neighbours 17 = .ok (.aaload, 1) := by decide +kernel
theorem dX6_neighbours_18 : decode cX6_neighbours 18 = .ok (.iload_n 1, 1) := by decide +kernel
theorem dX6_neighbours_19 : decode cX6_neighbours 19 = .ok (.invokevirtual 68, 3) := by decide +kernel
theorem dX6_neighbours_22 : decode cX6_neighbours 22 = .ok (.istore 4, 2) := by decide +kernel
theorem dX6_neighbours_24 : decode cX6_neighbours 24 = .ok (.iload 4, 2) := by decide +kernel
theorem dX6_neighbours_26 : decode cX6_neighbours 26 = .ok (.ifCond .lt 10, 3) := by decide +kernel
theorem dX6_neighbours_29 : decode cX6_neighbours 29 = .ok (.iload_n 2, 1) := by decide +kernel
theorem dX6_neighbours_30 : decode cX6_neighbours 30 = .ok (.iconst 1, 1) := by decide +kernel
theorem dX6_neighbours_31 : decode cX6_neighbours 31 = .ok (.iload 4, 2) := by decide +kernel
theorem dX6_neighbours_33 : decode cX6_neighbours 33 = .ok (.ishl, 1) := by decide +kernel
theorem dX6_neighbours_34 : decode cX6_neighbours 34 = .ok (.ior, 1) := by decide +kernel
theorem dX6_neighbours_35 : decode cX6_neighbours 35 = .ok (.istore_n 2, 1) := by decide +kernel
theorem dX6_neighbours_36 : decode cX6_neighbours 36 = .ok (.iinc 3 1, 3) := by decide +kernel
theorem dX6_neighbours_39 : decode cX6_neighbours 39 = .ok (.goto (-35), 3) := by decide +kernel
theorem dX6_neighbours_42 : decode cX6_neighbours 42 = .ok (.iload_n 2, 1) := by decide +kernel
theorem dX6_neighbours_43 : decode cX6_neighbours 43 = .ok (.ireturn, 1) := by decide +kernel
theorem dX6_between_0 : decode cX6_between 0 = .ok (.iconst 0, 1) := by decide +kernel
theorem dX6_between_1 : decode cX6_between 1 = .ok (.istore_n 3, 1) := by decide +kernel
theorem dX6_between_2 : decode cX6_between 2 = .ok (.iload_n 3, 1) := by decide +kernel
theorem dX6_between_3 : decode cX6_between 3 = .ok (.aload_n 0, 1) := by decide +kernel
theorem dX6_between_4 : decode cX6_between 4 = .ok (.getfield 17, 3) := by decide +kernel
theorem dX6_between_7 : decode cX6_between 7 = .ok (.if_icmp .ge 25, 3) := by decide +kernel
theorem dX6_between_10 : decode cX6_between 10 = .ok (.aload_n 0, 1) := by decide +kernel
theorem dX6_between_11 : decode cX6_between 11 = .ok (.getfield 11, 3) := by decide +kernel
theorem dX6_between_14 : decode cX6_between 14 = .ok (.iload_n 3, 1) := by decide +kernel
theorem dX6_between_15 : decode cX6_between 15 = .ok (.aaload, 1) := by decide +kernel
theorem dX6_between_16 : decode cX6_between 16 = .ok (.iload_n 1, 1) := by decide +kernel
theorem dX6_between_17 : decode cX6_between 17 = .ok (.invokevirtual 68, 3) := by decide +kernel
theorem dX6_between_20 : decode cX6_between 20 = .ok (.iload_n 2, 1) := by decide +kernel
theorem dX6_between_21 : decode cX6_between 21 = .ok (.if_icmp .ne 5, 3) := by decide +kernel
theorem dX6_between_24 : decode cX6_between 24 = .ok (.iload_n 3, 1) := by decide +kernel
theorem dX6_between_25 : decode cX6_between 25 = .ok (.ireturn, 1) := by decide +kernel
theorem dX6_between_26 : decode cX6_between 26 = .ok (.iinc 3 1, 3) := by decide +kernel
theorem dX6_between_29 : decode cX6_between 29 = .ok (.goto (-27), 3) := by decide +kernel
theorem dX6_between_32 : decode cX6_between 32 = .ok (.iconst (-1), 1) := by decide +kernel
theorem dX6_between_33 : decode cX6_between 33 = .ok (.ireturn, 1) := by decide +kernel
theorem dX6_quartersOnStreets_0 : decode cX6_quartersOnStreets 0 = .ok (.iconst 0, 1) := by decide +kernel
theorem dX6_quartersOnStreets_1 : decode cX6_quartersOnStreets 1 = .ok (.istore_n 1, 1) := by decide +kernel
theorem dX6_quartersOnStreets_2 : decode cX6_quartersOnStreets 2 = .ok (.iconst 0, 1) := by decide +kernel
theorem dX6_quartersOnStreets_3 : decode cX6_quartersOnStreets 3 = .ok (.istore_n 2, 1) := by decide +kernel
theorem dX6_quartersOnStreets_4 : decode cX6_quartersOnStreets 4 = .ok (.iload_n 2, 1) := by decide +kernel
theorem dX6_quartersOnStreets_5 : decode cX6_quartersOnStreets 5 = .ok (.aload_n 0, 1) := by decide +kernel
theorem dX6_quartersOnStreets_6 : decode cX6_quartersOnStreets 6 = .ok (.getfield 17, 3) := by decide +kernel
theorem dX6_quartersOnStreets_9 : decode cX6_quartersOnStreets 9 = .ok (.if_icmp .ge 45, 3) := by decide +kernel
theorem dX6_quartersOnStreets_12 : decode cX6_quartersOnStreets 12 = .ok (.iload_n 1, 1) := by decide +kernel
theorem dX6_quartersOnStreets_13 : decode cX6_quartersOnStreets 13 = .ok (.iconst 1, 1) := by decide +kernel
theorem dX6_quartersOnStreets_14 : decode cX6_quartersOnStreets 14 = .ok (.aload_n 0, 1) := by decide +kernel
theorem dX6_quartersOnStreets_15 : decode cX6_quartersOnStreets 15 = .ok (.getfield 21, 3) := by decide +kernel
theorem dX6_quartersOnStreets_18 : decode cX6_quartersOnStreets 18 = .ok (.aload_n 0, 1) := by decide +kernel
theorem dX6_quartersOnStreets_19 : decode cX6_quartersOnStreets 19 = .ok (.getfield 11, 3) := by decide +kernel
theorem dX6_quartersOnStreets_22 : decode cX6_quartersOnStreets 22 = .ok (.iload_n 2, 1) := by decide +kernel
theorem dX6_quartersOnStreets_23 : decode cX6_quartersOnStreets 23 = .ok (.aaload, 1) := by decide +kernel
theorem dX6_quartersOnStreets_24 : decode cX6_quartersOnStreets 24 = .ok (.getfield 56, 3) := by decide +kernel
theorem dX6_quartersOnStreets_27 : decode cX6_quartersOnStreets 27 = .ok (.iaload, 1) := by decide +kernel
theorem dX6_quartersOnStreets_28 : decode cX6_quartersOnStreets 28 = .ok (.ishl, 1) := by decide +kernel
theorem dX6_quartersOnStreets_29 : decode cX6_quartersOnStreets 29 = .ok (.iconst 1, 1) := by decide +kernel
theorem dX6_quartersOnStreets_30 : decode cX6_quartersOnStreets 30 = .ok (.aload_n 0, 1) := by decide +kernel
theorem dX6_quartersOnStreets_31 : decode cX6_quartersOnStreets 31 = .ok (.getfield 21, 3) := by decide +kernel
theorem dX6_quartersOnStreets_34 : decode cX6_quartersOnStreets 34 = .ok (.aload_n 0, 1) := by decide +kernel
theorem dX6_quartersOnStreets_35 : decode cX6_quartersOnStreets 35 = .ok (.getfield 11, 3) := by decide +kernel
theorem dX6_quartersOnStreets_38 : decode cX6_quartersOnStreets 38 = .ok (.iload_n 2, 1) := by decide +kernel
theorem dX6_quartersOnStreets_39 : decode cX6_quartersOnStreets 39 = .ok (.aaload, 1) := by decide +kernel
theorem dX6_quartersOnStreets_40 : decode cX6_quartersOnStreets 40 = .ok (.getfield 59, 3) := by decide +kernel
theorem dX6_quartersOnStreets_43 : decode cX6_quartersOnStreets 43 = .ok (.iaload, 1) := by decide +kernel
theorem dX6_quartersOnStreets_44 : decode cX6_quartersOnStreets 44 = .ok (.ishl, 1) := by decide +kernel
theorem dX6_quartersOnStreets_45 : decode cX6_quartersOnStreets 45 = .ok (.ior, 1) := by decide +kernel
theorem dX6_quartersOnStreets_46 : decode cX6_quartersOnStreets 46 = .ok (.ior, 1) := by decide +kernel
theorem dX6_quartersOnStreets_47 : decode cX6_quartersOnStreets 47 = .ok (.istore_n 1, 1) := by decide +kernel
theorem dX6_quartersOnStreets_48 : decode cX6_quartersOnStreets 48 = .ok (.iinc 2 1, 3) := by decide +kernel
theorem dX6_quartersOnStreets_51 : decode cX6_quartersOnStreets 51 = .ok (.goto (-47), 3) := by decide +kernel
theorem dX6_quartersOnStreets_54 : decode cX6_quartersOnStreets 54 = .ok (.iload_n 1, 1) := by decide +kernel
theorem dX6_quartersOnStreets_55 : decode cX6_quartersOnStreets 55 = .ok (.ireturn, 1) := by decide +kernel
theorem dX6_tellLosses_0 : decode cX6_tellLosses 0 = .ok (.iload 4, 2) := by decide +kernel
theorem dX6_tellLosses_2 : decode cX6_tellLosses 2 = .ok (.ifCond .lt 13, 3) := by decide +kernel
theorem dX6_tellLosses_5 : decode cX6_tellLosses 5 = .ok (.iload 4, 2) := by decide +kernel
theorem dX6_tellLosses_7 : decode cX6_tellLosses 7 = .ok (.aload_n 3, 1) := by decide +kernel
theorem dX6_tellLosses_8 : decode cX6_tellLosses 8 = .ok (.arraylength, 1) := by decide +kernel
theorem dX6_tellLosses_9 : decode cX6_tellLosses 9 = .ok (.bipush 12, 2) := by decide +kernel
theorem dX6_tellLosses_11 : decode cX6_tellLosses 11 = .ok (.isub, 1) := by decide +kernel
theorem dX6_tellLosses_12 : decode cX6_tellLosses 12 = .ok (.if_icmp .le 4, 3) := by decide +kernel
theorem dX6_tellLosses_15 : decode cX6_tellLosses 15 = .ok (.return_, 1) := by decide +kernel
theorem dX6_tellLosses_16 : decode cX6_tellLosses 16 = .ok (.aload_n 0, 1) := by decide +kernel
theorem dX6_tellLosses_17 : decode cX6_tellLosses 17 = .ok (.getfield 11, 3) := by decide +kernel
theorem dX6_tellLosses_20 : decode cX6_tellLosses 20 = .ok (.iload_n 1, 1) := by decide +kernel
theorem dX6_tellLosses_21 : decode cX6_tellLosses 21 = .ok (.aaload, 1) := by decide +kernel
theorem dX6_tellLosses_22 : decode cX6_tellLosses 22 = .ok (.astore 5, 2) := by decide +kernel
theorem dX6_tellLosses_24 : decode cX6_tellLosses 24 = .ok (.iconst 0, 1) := by decide +kernel
theorem dX6_tellLosses_25 : decode cX6_tellLosses 25 = .ok (.istore 6, 2) := by decide +kernel
theorem dX6_tellLosses_27 : decode cX6_tellLosses 27 = .ok (.iload 6, 2) := by decide +kernel
theorem dX6_tellLosses_29 : decode cX6_tellLosses 29 = .ok (.bipush 12, 2) := by decide +kernel
theorem dX6_tellLosses_31 : decode cX6_tellLosses 31 = .ok (.if_icmp .ge 36, 3) := by decide +kernel
theorem dX6_tellLosses_34 : decode cX6_tellLosses 34 = .ok (.aload_n 3, 1) := by decide +kernel
theorem dX6_tellLosses_35 : decode cX6_tellLosses 35 = .ok (.iload 4, 2) := by decide +kernel
theorem dX6_tellLosses_37 : decode cX6_tellLosses 37 = .ok (.iload 6, 2) := by decide +kernel
theorem dX6_tellLosses_39 : decode cX6_tellLosses 39 = .ok (.iadd, 1) := by decide +kernel
theorem dX6_tellLosses_40 : decode cX6_tellLosses 40 = .ok (.aload 5, 2) := by decide +kernel
theorem dX6_tellLosses_42 : decode cX6_tellLosses 42 = .ok (.aload_n 0, 1) := by decide +kernel
theorem dX6_tellLosses_43 : decode cX6_tellLosses 43 = .ok (.getfield 25, 3) := by decide +kernel
theorem dX6_tellLosses_46 : decode cX6_tellLosses 46 = .ok (.iload 6, 2) := by decide +kernel
theorem dX6_tellLosses_48 : decode cX6_tellLosses 48 = .ok (.iaload, 1) := by decide +kernel
theorem dX6_tellLosses_49 : decode cX6_tellLosses 49 = .ok (.aload_n 0, 1) := by decide +kernel
theorem dX6_tellLosses_50 : decode cX6_tellLosses 50 = .ok (.getfield 28, 3) := by decide +kernel
theorem dX6_tellLosses_53 : decode cX6_tellLosses 53 = .ok (.iload 6, 2) := by decide +kernel
theorem dX6_tellLosses_55 : decode cX6_tellLosses 55 = .ok (.iaload, 1) := by decide +kernel
theorem dX6_tellLosses_56 : decode cX6_tellLosses 56 = .ok (.iload_n 2, 1) := by decide +kernel
theorem dX6_tellLosses_57 : decode cX6_tellLosses 57 = .ok (.invokevirtual 72, 3) := by decide +kernel
theorem dX6_tellLosses_60 : decode cX6_tellLosses 60 = .ok (.iastore, 1) := by decide +kernel
theorem dX6_tellLosses_61 : decode cX6_tellLosses 61 = .ok (.iinc 6 1, 3) := by decide +kernel
theorem dX6_tellLosses_64 : decode cX6_tellLosses 64 = .ok (.goto (-37), 3) := by decide +kernel
theorem dX6_tellLosses_67 : decode cX6_tellLosses 67 = .ok (.return_, 1) := by decide +kernel
theorem dX6_lossAlong_0 : decode cX6_lossAlong 0 = .ok (.aload_n 0, 1) := by decide +kernel
theorem dX6_lossAlong_1 : decode cX6_lossAlong 1 = .ok (.iload_n 1, 1) := by decide +kernel
theorem dX6_lossAlong_2 : decode cX6_lossAlong 2 = .ok (.iload_n 3, 1) := by decide +kernel
theorem dX6_lossAlong_3 : decode cX6_lossAlong 3 = .ok (.aload_n 0, 1) := by decide +kernel
theorem dX6_lossAlong_4 : decode cX6_lossAlong 4 = .ok (.getfield 31, 3) := by decide +kernel
theorem dX6_lossAlong_7 : decode cX6_lossAlong 7 = .ok (.iconst 0, 1) := by decide +kernel
theorem dX6_lossAlong_8 : decode cX6_lossAlong 8 = .ok (.invokevirtual 76, 3) := by decide +kernel
theorem dX6_lossAlong_11 : decode cX6_lossAlong 11 = .ok (.aload_n 0, 1) := by decide +kernel
theorem dX6_lossAlong_12 : decode cX6_lossAlong 12 = .ok (.getfield 31, 3) := by decide +kernel
theorem dX6_lossAlong_15 : decode cX6_lossAlong 15 = .ok (.iconst 0, 1) := by decide +kernel
theorem dX6_lossAlong_16 : decode cX6_lossAlong 16 = .ok (.iload_n 2, 1) := by decide +kernel
theorem dX6_lossAlong_17 : decode cX6_lossAlong 17 = .ok (.aload_n 0, 1) := by decide +kernel
theorem dX6_lossAlong_18 : decode cX6_lossAlong 18 = .ok (.getfield 11, 3) := by decide +kernel
theorem dX6_lossAlong_21 : decode cX6_lossAlong 21 = .ok (.iload_n 1, 1) := by decide +kernel
theorem dX6_lossAlong_22 : decode cX6_lossAlong 22 = .ok (.aaload, 1) := by decide +kernel
theorem dX6_lossAlong_23 : decode cX6_lossAlong 23 = .ok (.invokevirtual 80, 3) := by decide +kernel
theorem dX6_lossAlong_26 : decode cX6_lossAlong 26 = .ok (.invokestatic 84, 3) := by decide +kernel
theorem dX6_lossAlong_29 : decode cX6_lossAlong 29 = .ok (.ireturn, 1) := by decide +kernel
theorem dX6_sumAlong_0 : decode cX6_sumAlong 0 = .ok (.iload_n 2, 1) := by decide +kernel
theorem dX6_sumAlong_1 : decode cX6_sumAlong 1 = .ok (.iload_n 3, 1) := by decide +kernel
theorem dX6_sumAlong_2 : decode cX6_sumAlong 2 = .ok (.iadd, 1) := by decide +kernel
theorem dX6_sumAlong_3 : decode cX6_sumAlong 3 = .ok (.istore 4, 2) := by decide +kernel
theorem dX6_sumAlong_5 : decode cX6_sumAlong 5 = .ok (.iload_n 2, 1) := by decide +kernel
theorem dX6_sumAlong_6 : decode cX6_sumAlong 6 = .ok (.istore 5, 2) := by decide +kernel
theorem dX6_sumAlong_8 : decode cX6_sumAlong 8 = .ok (.iconst 0, 1) := by decide +kernel
theorem dX6_sumAlong_9 : decode cX6_sumAlong 9 = .ok (.istore 6, 2) := by decide +kernel
theorem dX6_sumAlong_11 : decode cX6_sumAlong 11 = .ok (.iload_n 2, 1) := by decide +kernel
theorem dX6_sumAlong_12 : decode cX6_sumAlong 12 = .ok (.bipush 20, 2) := by decide +kernel
theorem dX6_sumAlong_14 : decode cX6_sumAlong 14 = .ok (.idiv, 1) := by decide +kernel
theorem dX6_sumAlong_15 : decode cX6_sumAlong 15 = .ok (.bipush 11, 2) := by decide +kernel
theorem dX6_sumAlong_17 : decode cX6_sumAlong 17 = .ok (.invokestatic 88, 3) := by decide +kernel
theorem dX6_sumAlong_20 : decode cX6_sumAlong 20 = .ok (.istore 7, 2) := by decide +kernel
theorem dX6_sumAlong_22 : decode cX6_sumAlong 22 = .ok (.iload 7, 2) := by decide +kernel
theorem dX6_sumAlong_24 : decode cX6_sumAlong 24 = .ok (.bipush 12, 2) := by decide +kernel
theorem dX6_sumAlong_26 : decode cX6_sumAlong 26 = .ok (.if_icmp .ge 63, 3) := by decide +kernel
theorem dX6_sumAlong_29 : decode cX6_sumAlong 29 = .ok (.iload 5, 2) := by decide +kernel
theorem dX6_sumAlong_31 : decode cX6_sumAlong 31 = .ok (.iload 4, 2) := by decide +kernel
theorem dX6_sumAlong_33 : decode cX6_sumAlong 33 = .ok (.if_icmp .ge 56, 3) := by decide +kernel
theorem dX6_sumAlong_36 : decode cX6_sumAlong 36 = .ok (.iload 7, 2) := by decide +kernel
theorem dX6_sumAlong_38 : decode cX6_sumAlong 38 = .ok (.bipush 11, 2) := by decide +kernel
theorem dX6_sumAlong_40 : decode cX6_sumAlong 40 = .ok (.if_icmp .ge 18, 3) := by decide +kernel
theorem dX6_sumAlong_43 : decode cX6_sumAlong 43 = .ok (.iload 4, 2) := by decide +kernel
theorem dX6_sumAlong_45 : decode cX6_sumAlong 45 = .ok (.iload 7, 2) := by decide +kernel
theorem dX6_sumAlong_47 : decode cX6_sumAlong 47 = .ok (.iconst 1, 1) := by decide +kernel
theorem dX6_sumAlong_48 : decode cX6_sumAlong 48 = .ok (.iadd, 1) := by decide +kernel
theorem dX6_sumAlong_49 : decode cX6_sumAlong 49 = .ok (.bipush 20, 2) := by decide +kernel
theorem dX6_sumAlong_51 : decode cX6_sumAlong 51 = .ok (.imul, 1) := by decide +kernel
theorem dX6_sumAlong_52 : decode cX6_sumAlong 52 = .ok (.invokestatic 88, 3) := by decide +kernel
theorem dX6_sumAlong_55 : decode cX6_sumAlong 55 = .ok (.goto 5, 3) := by decide +kernel
theorem dX6_sumAlong_58 : decode cX6_sumAlong 58 = .ok (.iload 4, 2) := by decide +kernel
theorem dX6_sumAlong_60 : decode cX6_sumAlong 60 = .ok (.istore 8, 2) := by decide +kernel
theorem dX6_sumAlong_62 : decode cX6_sumAlong 62 = .ok (.iload 6, 2) := by decide +kernel
theorem dX6_sumAlong_64 : decode cX6_sumAlong 64 = .ok (.iload 8, 2) := by decide +kernel
theorem dX6_sumAlong_66 : decode cX6_sumAlong 66 = .ok (.iload 5, 2) := by decide +kernel
theorem dX6_sumAlong_68 : decode cX6_sumAlong 68 = .ok (.isub, 1) := by decide +kernel
theorem dX6_sumAlong_69 : decode cX6_sumAlong 69 = .ok (.aload_n 0, 1) := by decide +kernel
theorem dX6_sumAlong_70 : decode cX6_sumAlong 70 = .ok (.iload_n 1, 1) := by decide +kernel
theorem dX6_sumAlong_71 : decode cX6_sumAlong 71 = .ok (.iload 7, 2) := by decide +kernel
theorem dX6_sumAlong_73 : decode cX6_sumAlong 73 = .ok (.iadd, 1) := by decide +kernel
theorem dX6_sumAlong_74 : decode cX6_sumAlong 74 = .ok (.iaload, 1) := by decide +kernel
theorem dX6_sumAlong_75 : decode cX6_sumAlong 75 = .ok (.imul, 1) := by decide +kernel
theorem dX6_sumAlong_76 : decode cX6_sumAlong 76 = .ok (.iadd, 1) := by decide +kernel
theorem dX6_sumAlong_77 : decode cX6_sumAlong 77 = .ok (.istore 6, 2) := by decide +kernel
theorem dX6_sumAlong_79 : decode cX6_sumAlong 79 = .ok (.iload 8, 2) := by decide +kernel
theorem dX6_sumAlong_81 : decode cX6_sumAlong 81 = .ok (.istore 5, 2) := by decide +kernel
theorem dX6_sumAlong_83 : decode cX6_sumAlong 83 = .ok (.iinc 7 1, 3) := by decide +kernel
theorem dX6_sumAlong_86 : decode cX6_sumAlong 86 = .ok (.goto (-64), 3) := by decide +kernel
theorem dX6_sumAlong_89 : decode cX6_sumAlong 89 = .ok (.iload 6, 2) := by decide +kernel
theorem dX6_sumAlong_91 : decode cX6_sumAlong 91 = .ok (.ireturn, 1) := by decide +kernel
theorem dX6_takesOfAll_0 : decode cX6_takesOfAll 0 = .ok (.iconst 0, 1) := by decide +kernel
theorem dX6_takesOfAll_1 : decode cX6_takesOfAll 1 = .ok (.istore_n 1, 1) := by decide +kernel
theorem dX6_takesOfAll_2 : decode cX6_takesOfAll 2 = .ok (.iconst 0, 1) := by decide +kernel
theorem dX6_takesOfAll_3 : decode cX6_takesOfAll 3 = .ok (.istore_n 2, 1) := by decide +kernel
theorem dX6_takesOfAll_4 : decode cX6_takesOfAll 4 = .ok (.iload_n 2, 1) := by decide +kernel
theorem dX6_takesOfAll_5 : decode cX6_takesOfAll 5 = .ok (.aload_n 0, 1) := by decide +kernel
theorem dX6_takesOfAll_6 : decode cX6_takesOfAll 6 = .ok (.getfield 17, 3) := by decide +kernel
theorem dX6_takesOfAll_9 : decode cX6_takesOfAll 9 = .ok (.if_icmp .ge 21, 3) := by decide +kernel
theorem dX6_takesOfAll_12 : decode cX6_takesOfAll 12 = .ok (.iload_n 1, 1) := by decide +kernel
theorem dX6_takesOfAll_13 : decode cX6_takesOfAll 13 = .ok (.aload_n 0, 1) := by decide +kernel
theorem dX6_takesOfAll_14 : decode cX6_takesOfAll 14 = .ok (.getfield 11, 3) := by decide +kernel
theorem dX6_takesOfAll_17 : decode cX6_takesOfAll 17 = .ok (.iload_n 2, 1) := by decide +kernel
theorem dX6_takesOfAll_18 : decode cX6_takesOfAll 18 = .ok (.aaload, 1) := by decide +kernel
theorem dX6_takesOfAll_19 : decode cX6_takesOfAll 19 = .ok (.invokevirtual 80, 3) := by decide +kernel
theorem dX6_takesOfAll_22 : decode cX6_takesOfAll 22 = .ok (.iadd, 1) := by decide +kernel
theorem dX6_takesOfAll_23 : decode cX6_takesOfAll 23 = .ok (.istore_n 1, 1) := by decide +kernel
theorem dX6_takesOfAll_24 : decode cX6_takesOfAll 24 = .ok (.iinc 2 1, 3) := by decide +kernel
theorem dX6_takesOfAll_27 : decode cX6_takesOfAll 27 = .ok (.goto (-23), 3) := by decide +kernel
theorem dX6_takesOfAll_30 : decode cX6_takesOfAll 30 = .ok (.iload_n 1, 1) := by decide +kernel
theorem dX6_takesOfAll_31 : decode cX6_takesOfAll 31 = .ok (.ireturn, 1) := by decide +kernel
theorem dX6_umbrellas_0 : decode cX6_umbrellas 0 = .ok (.iconst 0, 1) := by decide +kernel
theorem dX6_umbrellas_1 : decode cX6_umbrellas 1 = .ok (.istore_n 1, 1) := by decide +kernel
theorem dX6_umbrellas_2 : decode cX6_umbrellas 2 = .ok (.iconst 0, 1) := by decide +kernel
theorem dX6_umbrellas_3 : decode cX6_umbrellas 3 = .ok (.istore_n 2, 1) := by decide +kernel
theorem dX6_umbrellas_4 : decode cX6_umbrellas 4 = .ok (.iload_n 2, 1) := by decide +kernel
theorem dX6_umbrellas_5 : decode cX6_umbrellas 5 = .ok (.aload_n 0, 1) := by decide +kernel
theorem dX6_umbrellas_6 : decode cX6_umbrellas 6 = .ok (.getfield 17, 3) := by decide +kernel
theorem dX6_umbrellas_9 : decode cX6_umbrellas 9 = .ok (.if_icmp .ge 21, 3) := by decide +kernel
theorem dX6_umbrellas_12 : decode cX6_umbrellas 12 = .ok (.iload_n 1, 1) := by decide +kernel
theorem dX6_umbrellas_13 : decode cX6_umbrellas 13 = .ok (.aload_n 0, 1) := by decide +kernel
theorem dX6_umbrellas_14 : decode cX6_umbrellas 14 = .ok (.getfield 11, 3) := by decide +kernel
theorem dX6_umbrellas_17 : decode cX6_umbrellas 17 = .ok (.iload_n 2, 1) := by decide +kernel
theorem dX6_umbrellas_18 : decode cX6_umbrellas 18 = .ok (.aaload, 1) := by decide +kernel
theorem dX6_umbrellas_19 : decode cX6_umbrellas 19 = .ok (.getfield 65, 3) := by decide +kernel
theorem dX6_umbrellas_22 : decode cX6_umbrellas 22 = .ok (.iadd, 1) := by decide +kernel
theorem dX6_umbrellas_23 : decode cX6_umbrellas 23 = .ok (.istore_n 1, 1) := by decide +kernel
theorem dX6_umbrellas_24 : decode cX6_umbrellas 24 = .ok (.iinc 2 1, 3) := by decide +kernel
theorem dX6_umbrellas_27 : decode cX6_umbrellas 27 = .ok (.goto (-23), 3) := by decide +kernel
theorem dX6_umbrellas_30 : decode cX6_umbrellas 30 = .ok (.iload_n 1, 1) := by decide +kernel
theorem dX6_umbrellas_31 : decode cX6_umbrellas 31 = .ok (.ireturn, 1) := by decide +kernel
theorem dX7_init_0 : decode cX7_init 0 = .ok (.aload_n 0, 1) := by decide +kernel
theorem dX7_init_1 : decode cX7_init 1 = .ok (.invokespecial 1, 3) := by decide +kernel
theorem dX7_init_4 : decode cX7_init 4 = .ok (.aload_n 0, 1) := by decide +kernel
theorem dX7_init_5 : decode cX7_init 5 = .ok (.new 7, 3) := by decide +kernel
theorem dX7_init_8 : decode cX7_init 8 = .ok (.dup, 1) := by decide +kernel
theorem dX7_init_9 : decode cX7_init 9 = .ok (.invokespecial 9, 3) := by decide +kernel
theorem dX7_init_12 : decode cX7_init 12 = .ok (.putfield 10, 3) := by decide +kernel
theorem dX7_init_15 : decode cX7_init 15 = .ok (.aload_n 0, 1) := by decide +kernel
theorem dX7_init_16 : decode cX7_init 16 = .ok (.new 7, 3) := by decide +kernel
theorem dX7_init_19 : decode cX7_init 19 = .ok (.dup, 1) := by decide +kernel
theorem dX7_init_20 : decode cX7_init 20 = .ok (.invokespecial 9, 3) := by decide +kernel
theorem dX7_init_23 : decode cX7_init 23 = .ok (.putfield 16, 3) := by decide +kernel
theorem dX7_init_26 : decode cX7_init 26 = .ok (.aload_n 0, 1) := by decide +kernel
theorem dX7_init_27 : decode cX7_init 27 = .ok (.iconst 0, 1) := by decide +kernel
theorem dX7_init_28 : decode cX7_init 28 = .ok (.putfield 19, 3) := by decide +kernel
theorem dX7_init_31 : decode cX7_init 31 = .ok (.aload_n 0, 1) := by decide +kernel
theorem dX7_init_32 : decode cX7_init 32 = .ok (.new 23, 3) := by decide +kernel
theorem dX7_init_35 : decode cX7_init 35 = .ok (.dup, 1) := by decide +kernel
theorem dX7_init_36 : decode cX7_init 36 = .ok (.invokespecial 25, 3) := by decide +kernel
theorem dX7_init_39 : decode cX7_init 39 = .ok (.putfield 26, 3) := by decide +kernel
theorem dX7_init_42 : decode cX7_init 42 = .ok (.aload_n 0, 1) := by decide +kernel
theorem dX7_init_43 : decode cX7_init 43 = .ok (.new 30, 3) := by decide +kernel
theorem dX7_init_46 : decode cX7_init 46 = .ok (.dup, 1) := by decide +kernel
theorem dX7_init_47 : decode cX7_init 47 = .ok (.invokespecial 32, 3) := by decide +kernel
theorem dX7_init_50 : decode cX7_init 50 = .ok (.putfield 33, 3) := by decide +kernel
theorem dX7_init_53 : decode cX7_init 53 = .ok (.aload_n 0, 1) := by decide +kernel
theorem dX7_init_54 : decode cX7_init 54 = .ok (.new 37, 3) := by decide +kernel
theorem dX7_init_57 : decode cX7_init 57 = .ok (.dup, 1) := by decide +kernel
theorem dX7_init_58 : decode cX7_init 58 = .ok (.invokespecial 39, 3) := by decide +kernel
theorem dX7_init_61 : decode cX7_init 61 = .ok (.putfield 40, 3) := by decide +kernel
theorem dX7_init_64 : decode cX7_init 64 = .ok (.aload_n 0, 1) := by decide +kernel
theorem dX7_init_65 : decode cX7_init 65 = .ok (.iconst 4, 1) := by decide +kernel
theorem dX7_init_66 : decode cX7_init 66 = .ok (.anewarray 44, 3) := by decide +kernel
theorem dX7_init_69 : decode cX7_init 69 = .ok (.putfield 46, 3) := by decide +kernel
theorem dX7_init_72 : decode cX7_init 72 = .ok (.aload_n 0, 1) := by decide +kernel
theorem dX7_init_73 : decode cX7_init 73 = .ok (.bipush 7, 2) := by decide +kernel
theorem dX7_init_75 : decode cX7_init 75 = .ok (.newarray .int, 2) := by decide +kernel
theorem dX7_init_77 : decode cX7_init 77 = .ok (.putfield 50, 3) := by decide +kernel
theorem dX7_init_80 : decode cX7_init 80 = .ok (.iconst 0, 1) := by decide +kernel
theorem dX7_init_81 : decode cX7_init 81 = .ok (.istore_n 1, 1) := by decide +kernel
theorem dX7_init_82 : decode cX7_init 82 = .ok (.iload_n 1, 1) := by decide +kernel
theorem dX7_init_83 : decode cX7_init 83 = .ok (.iconst 4, 1) := by decide +kernel
theorem dX7_init_84 : decode cX7_init 84 = .ok (.if_icmp .ge 22, 3) := by decide +kernel
theorem dX7_init_87 : decode cX7_init 87 = .ok (.aload_n 0, 1) := by decide +kernel
theorem dX7_init_88 : decode cX7_init 88 = .ok (.getfield 46, 3) := by decide +kernel
theorem dX7_init_91 : decode cX7_init 91 = .ok (.iload_n 1, 1) := by decide +kernel
theorem dX7_init_92 : decode cX7_init 92 = .ok (.new 44, 3) := by decide +kernel
theorem dX7_init_95 : decode cX7_init 95 = .ok (.dup, 1) := by decide +kernel
theorem dX7_init_96 : decode cX7_init 96 = .ok (.invokespecial 54, 3) := by decide +kernel
theorem dX7_init_99 : decode cX7_init 99 = .ok (.aastore, 1) := by decide +kernel
theorem dX7_init_100 : decode cX7_init 100 = .ok (.iinc 1 1, 3) := by decide +kernel
theorem dX7_init_103 : decode cX7_init 103 = .ok (.goto (-21), 3) := by decide +kernel
theorem dX7_init_106 : decode cX7_init 106 = .ok (.return_, 1) := by decide +kernel
theorem dX7_street_0 : decode cX7_street 0 = .ok (.iload_n 1, 1) := by decide +kernel
theorem dX7_street_1 : decode cX7_street 1 = .ok (.invokestatic 55, 3) := by decide +kernel
theorem dX7_street_4 : decode cX7_street 4 = .ok (.ifCond .eq 33, 3) := by decide +kernel
theorem dX7_street_7 : decode cX7_street 7 = .ok (.iload_n 2, 1) := by decide +kernel
theorem dX7_street_8 : decode cX7_street 8 = .ok (.invokestatic 59, 3) := by decide +kernel
theorem dX7_street_11 : decode cX7_street 11 = .ok (.ifCond .eq 26, 3) := by decide +kernel
theorem dX7_street_14 : decode cX7_street 14 = .ok (.iload_n 3, 1) := by decide +kernel
theorem dX7_street_15 : decode cX7_street 15 = .ok (.invokestatic 59, 3) := by decide +kernel
theorem dX7_street_18 : decode cX7_street 18 = .ok (.ifCond .eq 19, 3) := by decide +kernel
theorem dX7_street_21 : decode cX7_street 21 = .ok (.iload_n 2, 1) := by decide +kernel
theorem dX7_street_22 : decode cX7_street 22 = .ok (.iload_n 3, 1) := by decide +kernel
theorem dX7_street_23 : decode cX7_street 23 = .ok (.if_icmp .eq 14, 3) := by decide +kernel
theorem dX7_street_26 : decode cX7_street 26 = .ok (.iload 4, 2) := by decide +kernel
theorem dX7_street_28 : decode cX7_street 28 = .ok (.iconst 1, 1) := by decide +kernel
theorem dX7_street_29 : decode cX7_street 29 = .ok (.bipush 20, 2) := by decide +kernel
theorem dX7_street_31 : decode cX7_street 31 = .ok (.invokestatic 62, 3) := by decide +kernel
theorem dX7_street_34 : decode cX7_street 34 = .ok (.ifCond .ne 9, 3) := by decide +kernel
theorem dX7_street_37 : decode cX7_street 37 = .ok (.aload_n 0, 1) := by decide +kernel
theorem dX7_street_38 : decode cX7_street 38 = .ok (.iconst 0, 1) := by decide +kernel
theorem dX7_street_39 : decode cX7_street 39 = .ok (.invokevirtual 66, 3) := by decide +kernel
theorem dX7_street_42 : decode cX7_street 42 = .ok (.ireturn, 1) := by decide +kernel
theorem dX7_street_43 : decode cX7_street 43 = .ok (.aload_n 0, 1) := by decide +kernel
theorem dX7_street_44 : decode cX7_street 44 = .ok (.getfield 10, 3) := by decide +kernel
theorem dX7_street_47 : decode cX7_street 47 = .ok (.getfield 70, 3) := by decide +kernel
theorem dX7_street_50 : decode cX7_street 50 = .ok (.invokevirtual 73, 3) := by decide +kernel
theorem dX7_street_53 : decode cX7_street 53 = .ok (.ifCond .eq 9, 3) := by decide +kernel
theorem dX7_street_56 : decode cX7_street 56 = .ok (.aload_n 0, 1) := by decide +kernel
theorem dX7_street_57 : decode cX7_street 57 = .ok (.iconst 1, 1) := by decide +kernel
theorem dX7_street_58 : decode cX7_street 58 = .ok (.invokevirtual 66, 3) := by decide +kernel
theorem dX7_street_61 : decode cX7_street 61 = .ok (.ireturn, 1) := by decide +kernel
theorem dX7_street_62 : decode cX7_street 62 = .ok (.aload_n 0, 1) := by decide +kernel
theorem dX7_street_63 : decode cX7_street 63 = .ok (.getfield 10, 3) := by decide +kernel
theorem dX7_street_66 : decode cX7_street 66 = .ok (.getfield 70, 3) := by decide +kernel
theorem dX7_street_69 : decode cX7_street 69 = .ok (.iload_n 1, 1) := by decide +kernel
theorem dX7_street_70 : decode cX7_street 70 = .ok (.iload_n 2, 1) := by decide +kernel
theorem dX7_street_71 : decode cX7_street 71 = .ok (.iload_n 3, 1) := by decide +kernel
theorem dX7_street_72 : decode cX7_street 72 = .ok (.iload 4, 2) := by decide +kernel
theorem dX7_street_74 : decode cX7_street 74 = .ok (.iconst 0, 1) := by decide +kernel
theorem dX7_street_75 : decode cX7_street 75 = .ok (.invokevirtual 77, 3) := by decide +kernel
theorem dX7_street_78 : decode cX7_street 78 = .ok (.ireturn, 1) := by decide +kernel
theorem dX7_of_0 : decode cX7_of 0 = .ok (.aload_n 0, 1) := by decide +kernel
theorem dX7_of_1 : decode cX7_of 1 = .ok (.getfield 10, 3) := by decide +kernel
theorem dX7_of_4 : decode cX7_of 4 = .ok (.getfield 70, 3) := by decide +kernel
theorem dX7_of_7 : decode cX7_of 7 = .ok (.iload_n 1, 1) := by decide +kernel
theorem dX7_of_8 : decode cX7_of 8 = .ok (.invokevirtual 81, 3) := by decide +kernel
theorem dX7_of_11 : decode cX7_of 11 = .ok (.ifCond .ne 9, 3) := by decide +kernel
theorem dX7_of_14 : decode cX7_of 14 = .ok (.aload_n 0, 1) := by decide +kernel
theorem dX7_of_15 : decode cX7_of 15 = .ok (.iconst 0, 1) := by decide +kernel
theorem dX7_of_16 : decode cX7_of 16 = .ok (.invokevirtual 66, 3) := by decide +kernel
theorem dX7_of_19 : decode cX7_of 19 = .ok (.ireturn, 1) := by decide +kernel
theorem dX7_of_20 : decode cX7_of 20 = .ok (.aload_n 0, 1) := by decide +kernel
theorem dX7_of_21 : decode cX7_of 21 = .ok (.getfield 10, 3) := by decide +kernel
theorem dX7_of_24 : decode cX7_of 24 = .ok (.getfield 70, 3) := by decide +kernel
theorem dX7_of_27 : decode cX7_of 27 = .ok (.getfield 84, 3) := by decide +kernel
theorem dX7_of_30 : decode cX7_of 30 = .ok (.iload_n 1, 1) := by decide +kernel
theorem dX7_of_31 : decode cX7_of 31 = .ok (.aaload, 1) := by decide +kernel
theorem dX7_of_32 : decode cX7_of 32 = .ok (.astore_n 3, 1) := by decide +kernel
theorem dX7_of_33 : decode cX7_of 33 = .ok (.iload_n 2, 1) := by decide +kernel
theorem dX7_of_34 : decode cX7_of 34 = .ok (.tableswitch 94 0 6 #[42, 47, 59, 71, 76, 81, 86], 42) := by decide +kernel
theorem dX7_of_76 : decode cX7_of 76 = .ok (.aload_n 3, 1) := by decide +kernel
theorem dX7_of_77 : decode cX7_of 77 = .ok (.getfield 88, 3) := by decide +kernel
theorem dX7_of_80 : decode cX7_of 80 = .ok (.ireturn, 1) := by decide +kernel
theorem dX7_of_81 : decode cX7_of 81 = .ok (.aload_n 3, 1) := by decide +kernel
theorem dX7_of_82 : decode cX7_of 82 = .ok (.getfield 94, 3) := by decide +kernel
theorem dX7_of_85 : decode cX7_of 85 = .ok (.aload_n 3, 1) := by decide +kernel
theorem dX7_of_86 : decode cX7_of 86 = .ok (.getfield 97, 3) := by decide +kernel
theorem dX7_of_89 : decode cX7_of 89 = .ok (.invokestatic 100, 3) := by decide +kernel
theorem dX7_of_92 : decode cX7_of 92 = .ok (.ireturn, 1) := by decide +kernel
theorem dX7_of_93 : decode cX7_of 93 = .ok (.aload_n 3, 1) := by decide +kernel
theorem dX7_of_94 : decode cX7_of 94 = .ok (.getfield 94, 3) := by decide +kernel
theorem dX7_of_97 : decode cX7_of 97 = .ok (.aload_n 3, 1) := by decide +kernel
theorem dX7_of_98 : decode cX7_of 98 = .ok (.getfield 97, 3) := by decide +kernel
theorem dX7_of_101 : decode cX7_of 101 = .ok (.invokestatic 106, 3) := by decide +kernel
theorem dX7_of_104 : decode cX7_of 104 = .ok (.ireturn, 1) := by decide +kernel
theorem dX7_of_105 : decode cX7_of 105 = .ok (.aload_n 3, 1) := by decide +kernel
theorem dX7_of_106 : decode cX7_of 106 = .ok (.getfield 109, 3) := by decide +kernel
theorem dX7_of_109 : decode cX7_of 109 = .ok (.ireturn, 1) := by decide +kernel
theorem dX7_of_110 : decode cX7_of 110 = .ok (.aload_n 3, 1) := by decide +kernel
theorem dX7_of_111 : decode cX7_of 111 = .ok (.getfield 112, 3) := by decide +kernel
theorem dX7_of_114 : decode cX7_of 114 = .ok (.ireturn, 1) := by decide +kernel
theorem dX7_of_115 : decode cX7_of 115 = .ok (.aload_n 3, 1) := by decide +kernel
theorem dX7_of_116 : decode cX7_of 116 = .ok (.invokevirtual 115, 3) := by decide +kernel
theorem dX7_of_119 : decode cX7_of 119 = .ok (.ireturn, 1) := by decide +kernel
theorem dX7_of_120 : decode cX7_of 120 = .ok (.aload_n 3, 1) := by decide +kernel
theorem dX7_of_121 : decode cX7_of 121 = .ok (.getfield 88, 3) := by decide +kernel
theorem dX7_of_124 : decode cX7_of 124 = .ok (.invokestatic 119, 3) := by decide +kernel
theorem dX7_of_127 : decode cX7_of 127 = .ok (.ireturn, 1) := by decide +kernel
theorem dX7_of_128 : decode cX7_of 128 = .ok (.aload_n 0, 1) := by decide +kernel
theorem dX7_of_129 : decode cX7_of 129 = .ok (.iconst 0, 1) := by decide +kernel
theorem dX7_of_130 : decode cX7_of 130 = .ok (.invokevirtual 66, 3) := by decide +kernel
theorem dX7_of_133 : decode cX7_of 133 = .ok (.ireturn, 1) := by decide +kernel
theorem dX7_change_0 : decode cX7_change 0 = .ok (.aload_n 0, 1) := by decide +kernel
theorem dX7_change_1 : decode cX7_change 1 = .ok (.getfield 10, 3) := by decide +kernel
theorem dX7_change_4 : decode cX7_change 4 = .ok (.getfield 70, 3) := by decide +kernel
theorem dX7_change_7 : decode cX7_change 7 = .ok (.iload_n 1, 1) := by decide +kernel
theorem dX7_change_8 : decode cX7_change 8 = .ok (.invokevirtual 81, 3) := by decide +kernel
theorem dX7_change_11 : decode cX7_change 11 = .ok (.ifCond .ne 9, 3) := by decide +kernel
theorem dX7_change_14 : decode cX7_change 14 = .ok (.aload_n 0, 1) := by decide +kernel
theorem dX7_change_15 : decode cX7_change 15 = .ok (.iconst 0, 1) := by decide +kernel
theorem dX7_change_16 : decode cX7_change 16 = .ok (.invokevirtual 66, 3) := by decide +kernel
theorem dX7_change_19 : decode cX7_change 19 = .ok (.ireturn, 1) := by decide +kernel
theorem dX7_change_20 : decode cX7_change 20 = .ok (.aload_n 0, 1) := by decide +kernel
theorem dX7_change_21 : decode cX7_change 21 = .ok (.getfield 10, 3) := by decide +kernel
theorem dX7_change_24 : decode cX7_change 24 = .ok (.getfield 70, 3) := by decide +kernel
theorem dX7_change_27 : decode cX7_change 27 = .ok (.getfield 84, 3) := by decide +kernel
theorem dX7_change_30 : decode cX7_change 30 = .ok (.iload_n 1, 1) := by decide +kernel
theorem dX7_change_31 : decode cX7_change 31 = .ok (.aaload, 1) := by decide +kernel
theorem dX7_change_32 : decode cX7_change 32 = .ok (.astore 4, 2) := by decide +kernel
theorem dX7_change_34 : decode cX7_change 34 = .ok (.iload_n 2, 1) := by decide +kernel
theorem dX7_change_35 : decode cX7_change 35 = .ok (.ifCond .ne 26, 3) := by decide +kernel
theorem dX7_change_38 : decode cX7_change 38 = .ok (.iload_n 3, 1) := by decide +kernel
theorem dX7_change_39 : decode cX7_change 39 = .ok (.invokestatic 55, 3) := by decide +kernel
theorem dX7_change_42 : decode cX7_change 42 = .ok (.ifCond .eq 19, 3) := by decide +kernel
theorem dX7_change_45 : decode cX7_change 45 = .ok (.aload 4, 2) := by decide +kernel
theorem dX7_change_47 : decode cX7_change 47 = .ok (.getfield 88, 3) := by decide +kernel
theorem dX7_change_50 : decode cX7_change 50 = .ok (.istore 5, 2) := by decide +kernel
theorem dX7_change_52 : decode cX7_change 52 = .ok (.aload 4, 2) := by decide +kernel
theorem dX7_change_54 : decode cX7_change 54 = .ok (.iload_n 3, 1) := by decide +kernel
theorem dX7_change_55 : decode cX7_change 55 = .ok (.putfield 88, 3) := by decide +kernel
theorem dX7_change_58 : decode cX7_change 58 = .ok (.goto 71, 3) := by decide +kernel
theorem dX7_change_61 : decode cX7_change 61 = .ok (.iload_n 2, 1) := by decide +kernel
theorem dX7_change_62 : decode cX7_change 62 = .ok (.iconst 3, 1) := by decide +kernel
theorem dX7_change_63 : decode cX7_change 63 = .ok (.if_icmp .ne 29, 3) := by decide +kernel
theorem dX7_change_66 : decode cX7_change 66 = .ok (.iload_n 3, 1) := by decide +kernel
theorem dX7_change_67 : decode cX7_change 67 = .ok (.iconst 1, 1) := by decide +kernel
theorem dX7_change_68 : decode cX7_change 68 = .ok (.bipush 20, 2) := by decide +kernel
theorem dX7_change_70 : decode cX7_change 70 = .ok (.invokestatic 62, 3) := by decide +kernel
theorem dX7_change_73 : decode cX7_change 73 = .ok (.ifCond .eq 19, 3) := by decide +kernel
theorem dX7_change_76 : decode cX7_change 76 = .ok (.aload 4, 2) := by decide +kernel
theorem dX7_change_78 : decode cX7_change 78 = .ok (.getfield 109, 3) := by decide +kernel
theorem dX7_change_81 : decode cX7_change 81 = .ok (.istore 5, 2) := by decide +kernel
theorem dX7_change_83 : decode cX7_change 83 = .ok (.aload 4, 2) := by decide +kernel
theorem dX7_change_85 : decode cX7_change 85 = .ok (.iload_n 3, 1) := by decide +kernel
theorem dX7_change_86 : decode cX7_change 86 = .ok (.putfield 109, 3) := by decide +kernel
theorem dX7_change_89 : decode cX7_change 89 = .ok (.goto 40, 3) := by decide +kernel
theorem dX7_change_92 : decode cX7_change 92 = .ok (.iload_n 2, 1) := by decide +kernel
theorem dX7_change_93 : decode cX7_change 93 = .ok (.iconst 4, 1) := by decide +kernel
theorem dX7_change_94 : decode cX7_change 94 = .ok (.if_icmp .ne 28, 3) := by decide +kernel
theorem dX7_change_97 : decode cX7_change 97 = .ok (.iload_n 3, 1) := by decide +kernel
theorem dX7_change_98 : decode cX7_change 98 = .ok (.iconst 0, 1) := by decide +kernel
theorem dX7_change_99 : decode cX7_change 99 = .ok (.iconst 1, 1) := by decide +kernel
theorem dX7_change_100 : decode cX7_change 100 = .ok (.invokestatic 62, 3) := by decide +kernel
theorem dX7_change_103 : decode cX7_change 103 = .ok (.ifCond .eq 19, 3) := by decide +kernel
theorem dX7_change_106 : decode cX7_change 106 = .ok (.aload 4, 2) := by decide +kernel
theorem dX7_change_108 : decode cX7_change 108 = .ok (.getfield 112, 3) := by decide +kernel
theorem dX7_change_111 : decode cX7_change 111 = .ok (.istore 5, 2) := by decide +kernel
theorem dX7_change_113 : decode cX7_change 113 = .ok (.aload 4, 2) := by decide +kernel
theorem dX7_change_115 : decode cX7_change 115 = .ok (.iload_n 3, 1) := by decide +kernel
theorem dX7_change_116 : decode cX7_change 116 = .ok (.putfield 112, 3) := by decide +kernel
theorem dX7_change_119 : decode cX7_change 119 = .ok (.goto 10, 3) := by decide +kernel
theorem dX7_change_122 : decode cX7_change 122 = .ok (.aload_n 0, 1) := by decide +kernel
theorem dX7_change_123 : decode cX7_change 123 = .ok (.iconst 0, 1) := by decide +kernel
theorem dX7_change_124 : decode cX7_change 124 = .ok (.invokevirtual 66, 3) := by decide +kernel
theorem dX7_change_127 : decode cX7_change 127 = .ok (.istore 5, 2) := by decide +kernel
theorem dX7_change_129 : decode cX7_change 129 = .ok (.iload 5, 2) := by decide +kernel
theorem dX7_change_131 : decode cX7_change 131 = .ok (.ireturn, 1) := by decide +kernel
theorem dX7_quarter_0 : decode cX7_quarter 0 = .ok (.iload_n 1, 1) := by decide +kernel
theorem dX7_quarter_1 : decode cX7_quarter 1 = .ok (.invokestatic 59, 3) := by decide +kernel
theorem dX7_quarter_4 : decode cX7_quarter 4 = .ok (.ifCond .eq 12, 3) := by decide +kernel
theorem dX7_quarter_7 : decode cX7_quarter 7 = .ok (.iload_n 2, 1) := by decide +kernel
theorem dX7_quarter_8 : decode cX7_quarter 8 = .ok (.iconst 0, 1) := by decide +kernel
theorem dX7_quarter_9 : decode cX7_quarter 9 = .ok (.iconst 3, 1) := by decide +kernel
theorem dX7_quarter_10 : decode cX7_quarter 10 = .ok (.invokestatic 62, 3) := by decide +kernel
theorem dX7_quarter_13 : decode cX7_quarter 13 = .ok (.ifCond .ne 9, 3) := by decide +kernel
theorem dX7_quarter_16 : decode cX7_quarter 16 = .ok (.aload_n 0, 1) := by decide +kernel
theorem dX7_quarter_17 : decode cX7_quarter 17 = .ok (.iconst 0, 1) := by decide +kernel
theorem dX7_quarter_18 : decode cX7_quarter 18 = .ok (.invokevirtual 66, 3) := by decide +kernel
theorem dX7_quarter_21 : decode cX7_quarter 21 = .ok (.ireturn, 1) := by decide +kernel
theorem dX7_quarter_22 : decode cX7_quarter 22 = .ok (.aload_n 0, 1) := by decide +kernel
theorem dX7_quarter_23 : decode cX7_quarter 23 = .ok (.getfield 10, 3) := by decide +kernel
theorem dX7_quarter_26 : decode cX7_quarter 26 = .ok (.getfield 70, 3) := by decide +kernel
theorem dX7_quarter_29 : decode cX7_quarter 29 = .ok (.getfield 122, 3) := by decide +kernel
theorem dX7_quarter_32 : decode cX7_quarter 32 = .ok (.iload_n 1, 1) := by decide +kernel
theorem dX7_quarter_33 : decode cX7_quarter 33 = .ok (.iload_n 2, 1) := by decide +kernel
theorem dX7_quarter_34 : decode cX7_quarter 34 = .ok (.invokestatic 125, 3) := by decide +kernel
theorem dX7_quarter_37 : decode cX7_quarter 37 = .ok (.ireturn, 1) := by decide +kernel
theorem dX7_spell_0 : decode cX7_spell 0 = .ok (.iload_n 1, 1) := by decide +kernel
theorem dX7_spell_1 : decode cX7_spell 1 = .ok (.iconst 0, 1) := by decide +kernel
theorem dX7_spell_2 : decode cX7_spell 2 = .ok (.bipush 11, 2) := by decide +kernel
theorem dX7_spell_4 : decode cX7_spell 4 = .ok (.invokestatic 62, 3) := by decide +kernel
theorem dX7_spell_7 : decode cX7_spell 7 = .ok (.ifCond .eq 22, 3) := by decide +kernel
end
section
theorem dX7_spell_10 : decode cX7_spell 10 = .ok (.iload_n 2, 1) := by decide +kernel
theorem dX7_spell_11 : decode cX7_spell 11 = .ok (.iconst 0, 1) := by decide +kernel
theorem dX7_spell_12 : decode cX7_spell 12 = .ok (.iconst 1, 1) := by decide +kernel
theorem dX7_spell_13 : decode cX7_spell 13 = .ok (.invokestatic 62, 3) := by decide +kernel
theorem dX7_spell_16 : decode cX7_spell 16 = .ok (.ifCond .eq 13, 3) := by decide +kernel
theorem dX7_spell_19 : decode cX7_spell 19 = .ok (.iload_n 3, 1) := by decide +kernel
theorem dX7_spell_20 : decode cX7_spell 20 = .ok (.iconst 0, 1) := by decide +kernel
theorem dX7_spell_21 : decode cX7_spell 21 = .ok (.bipush 9, 2) := by decide +kernel
theorem dX7_spell_23 : decode cX7_spell 23 = .ok (.invokestatic 62, 3) := by decide +kernel
theorem dX7_spell_26 : decode cX7_spell 26 = .ok (.ifCond .ne 9, 3) := by decide +kernel
theorem dX7_spell_29 : decode cX7_spell 29 = .ok (.aload_n 0, 1) := by decide +kernel
theorem dX7_spell_30 : decode cX7_spell 30 = .ok (.iconst 0, 1) := by decide +kernel
theorem dX7_spell_31 : decode cX7_spell 31 = .ok (.invokevirtual 66, 3) := by decide +kernel
theorem dX7_spell_34 : decode cX7_spell 34 = .ok (.ireturn, 1) := by decide +kernel
theorem dX7_spell_35 : decode cX7_spell 35 = .ok (.iload_n 2, 1) := by decide +kernel
theorem dX7_spell_36 : decode cX7_spell 36 = .ok (.ifCond .ne 16, 3) := by decide +kernel
theorem dX7_spell_39 : decode cX7_spell 39 = .ok (.aload_n 0, 1) := by decide +kernel
theorem dX7_spell_40 : decode cX7_spell 40 = .ok (.getfield 10, 3) := by decide +kernel
theorem dX7_spell_43 : decode cX7_spell 43 = .ok (.getfield 70, 3) := by decide +kernel
theorem dX7_spell_46 : decode cX7_spell 46 = .ok (.getfield 129, 3) := by decide +kernel
theorem dX7_spell_49 : decode cX7_spell 49 = .ok (.goto 13, 3) := by decide +kernel
theorem dX7_spell_52 : decode cX7_spell 52 = .ok (.aload_n 0, 1) := by decide +kernel
theorem dX7_spell_53 : decode cX7_spell 53 = .ok (.getfield 10, 3) := by decide +kernel
theorem dX7_spell_56 : decode cX7_spell 56 = .ok (.getfield 70, 3) := by decide +kernel
theorem dX7_spell_59 : decode cX7_spell 59 = .ok (.getfield 132, 3) := by decide +kernel
theorem dX7_spell_62 : decode cX7_spell 62 = .ok (.iload_n 1, 1) := by decide +kernel
theorem dX7_spell_63 : decode cX7_spell 63 = .ok (.iload_n 3, 1) := by decide +kernel
theorem dX7_spell_64 : decode cX7_spell 64 = .ok (.invokestatic 125, 3) := by decide +kernel
theorem dX7_spell_67 : decode cX7_spell 67 = .ok (.ireturn, 1) := by decide +kernel
theorem dX7_loss_0 : decode cX7_loss 0 = .ok (.aload_n 0, 1) := by decide +kernel
theorem dX7_loss_1 : decode cX7_loss 1 = .ok (.getfield 10, 3) := by decide +kernel
theorem dX7_loss_4 : decode cX7_loss 4 = .ok (.getfield 70, 3) := by decide +kernel
theorem dX7_loss_7 : decode cX7_loss 7 = .ok (.iload_n 1, 1) := by decide +kernel
theorem dX7_loss_8 : decode cX7_loss 8 = .ok (.invokevirtual 81, 3) := by decide +kernel
theorem dX7_loss_11 : decode cX7_loss 11 = .ok (.ifCond .eq 13, 3) := by decide +kernel
theorem dX7_loss_14 : decode cX7_loss 14 = .ok (.iload_n 2, 1) := by decide +kernel
theorem dX7_loss_15 : decode cX7_loss 15 = .ok (.iconst 0, 1) := by decide +kernel
theorem dX7_loss_16 : decode cX7_loss 16 = .ok (.bipush 11, 2) := by decide +kernel
theorem dX7_loss_18 : decode cX7_loss 18 = .ok (.invokestatic 62, 3) := by decide +kernel
theorem dX7_loss_21 : decode cX7_loss 21 = .ok (.ifCond .ne 9, 3) := by decide +kernel
theorem dX7_loss_24 : decode cX7_loss 24 = .ok (.aload_n 0, 1) := by decide +kernel
theorem dX7_loss_25 : decode cX7_loss 25 = .ok (.iconst 0, 1) := by decide +kernel
theorem dX7_loss_26 : decode cX7_loss 26 = .ok (.invokevirtual 66, 3) := by decide +kernel
theorem dX7_loss_29 : decode cX7_loss 29 = .ok (.ireturn, 1) := by decide +kernel
theorem dX7_loss_30 : decode cX7_loss 30 = .ok (.aload_n 0, 1) := by decide +kernel
theorem dX7_loss_31 : decode cX7_loss 31 = .ok (.getfield 10, 3) := by decide +kernel
theorem dX7_loss_34 : decode cX7_loss 34 = .ok (.getfield 70, 3) := by decide +kernel
theorem dX7_loss_37 : decode cX7_loss 37 = .ok (.astore_n 3, 1) := by decide +kernel
theorem dX7_loss_38 : decode cX7_loss 38 = .ok (.aload_n 3, 1) := by decide +kernel
theorem dX7_loss_39 : decode cX7_loss 39 = .ok (.getfield 84, 3) := by decide +kernel
theorem dX7_loss_42 : decode cX7_loss 42 = .ok (.iload_n 1, 1) := by decide +kernel
theorem dX7_loss_43 : decode cX7_loss 43 = .ok (.aaload, 1) := by decide +kernel
theorem dX7_loss_44 : decode cX7_loss 44 = .ok (.aload_n 3, 1) := by decide +kernel
theorem dX7_loss_45 : decode cX7_loss 45 = .ok (.getfield 129, 3) := by decide +kernel
theorem dX7_loss_48 : decode cX7_loss 48 = .ok (.iload_n 2, 1) := by decide +kernel
theorem dX7_loss_49 : decode cX7_loss 49 = .ok (.iaload, 1) := by decide +kernel
theorem dX7_loss_50 : decode cX7_loss 50 = .ok (.aload_n 3, 1) := by decide +kernel
theorem dX7_loss_51 : decode cX7_loss 51 = .ok (.getfield 132, 3) := by decide +kernel
theorem dX7_loss_54 : decode cX7_loss 54 = .ok (.iload_n 2, 1) := by decide +kernel
theorem dX7_loss_55 : decode cX7_loss 55 = .ok (.iaload, 1) := by decide +kernel
theorem dX7_loss_56 : decode cX7_loss 56 = .ok (.aload_n 0, 1) := by decide +kernel
theorem dX7_loss_57 : decode cX7_loss 57 = .ok (.getfield 10, 3) := by decide +kernel
theorem dX7_loss_60 : decode cX7_loss 60 = .ok (.getfield 135, 3) := by decide +kernel
theorem dX7_loss_63 : decode cX7_loss 63 = .ok (.getfield 139, 3) := by decide +kernel
theorem dX7_loss_66 : decode cX7_loss 66 = .ok (.invokevirtual 144, 3) := by decide +kernel
theorem dX7_loss_69 : decode cX7_loss 69 = .ok (.ireturn, 1) := by decide +kernel
theorem dX7_next_0 : decode cX7_next 0 = .ok (.iload_n 1, 1) := by decide +kernel
theorem dX7_next_1 : decode cX7_next 1 = .ok (.invokestatic 59, 3) := by decide +kernel
theorem dX7_next_4 : decode cX7_next 4 = .ok (.ifCond .ne 9, 3) := by decide +kernel
theorem dX7_next_7 : decode cX7_next 7 = .ok (.aload_n 0, 1) := by decide +kernel
theorem dX7_next_8 : decode cX7_next 8 = .ok (.iconst 0, 1) := by decide +kernel
theorem dX7_next_9 : decode cX7_next 9 = .ok (.invokevirtual 66, 3) := by decide +kernel
theorem dX7_next_12 : decode cX7_next 12 = .ok (.ireturn, 1) := by decide +kernel
theorem dX7_next_13 : decode cX7_next 13 = .ok (.aload_n 0, 1) := by decide +kernel
theorem dX7_next_14 : decode cX7_next 14 = .ok (.getfield 10, 3) := by decide +kernel
theorem dX7_next_17 : decode cX7_next 17 = .ok (.getfield 70, 3) := by decide +kernel
theorem dX7_next_20 : decode cX7_next 20 = .ok (.iload_n 1, 1) := by decide +kernel
theorem dX7_next_21 : decode cX7_next 21 = .ok (.invokevirtual 148, 3) := by decide +kernel
theorem dX7_next_24 : decode cX7_next 24 = .ok (.ireturn, 1) := by decide +kernel
theorem dX7_by_0 : decode cX7_by 0 = .ok (.iload_n 1, 1) := by decide +kernel
theorem dX7_by_1 : decode cX7_by 1 = .ok (.invokestatic 59, 3) := by decide +kernel
theorem dX7_by_4 : decode cX7_by 4 = .ok (.ifCond .eq 15, 3) := by decide +kernel
theorem dX7_by_7 : decode cX7_by 7 = .ok (.iload_n 2, 1) := by decide +kernel
theorem dX7_by_8 : decode cX7_by 8 = .ok (.invokestatic 59, 3) := by decide +kernel
theorem dX7_by_11 : decode cX7_by 11 = .ok (.ifCond .eq 8, 3) := by decide +kernel
theorem dX7_by_14 : decode cX7_by 14 = .ok (.iload_n 1, 1) := by decide +kernel
theorem dX7_by_15 : decode cX7_by 15 = .ok (.iload_n 2, 1) := by decide +kernel
theorem dX7_by_16 : decode cX7_by 16 = .ok (.if_icmp .ne 9, 3) := by decide +kernel
theorem dX7_by_19 : decode cX7_by 19 = .ok (.aload_n 0, 1) := by decide +kernel
theorem dX7_by_20 : decode cX7_by 20 = .ok (.iconst 0, 1) := by decide +kernel
theorem dX7_by_21 : decode cX7_by 21 = .ok (.invokevirtual 66, 3) := by decide +kernel
theorem dX7_by_24 : decode cX7_by 24 = .ok (.ireturn, 1) := by decide +kernel
theorem dX7_by_25 : decode cX7_by 25 = .ok (.aload_n 0, 1) := by decide +kernel
theorem dX7_by_26 : decode cX7_by 26 = .ok (.getfield 10, 3) := by decide +kernel
theorem dX7_by_29 : decode cX7_by 29 = .ok (.getfield 70, 3) := by decide +kernel
theorem dX7_by_32 : decode cX7_by 32 = .ok (.iload_n 1, 1) := by decide +kernel
theorem dX7_by_33 : decode cX7_by 33 = .ok (.iload_n 2, 1) := by decide +kernel
theorem dX7_by_34 : decode cX7_by 34 = .ok (.invokevirtual 151, 3) := by decide +kernel
theorem dX7_by_37 : decode cX7_by 37 = .ok (.istore_n 3, 1) := by decide +kernel
theorem dX7_by_38 : decode cX7_by 38 = .ok (.iload_n 3, 1) := by decide +kernel
theorem dX7_by_39 : decode cX7_by 39 = .ok (.ifCond .ge 11, 3) := by decide +kernel
theorem dX7_by_42 : decode cX7_by 42 = .ok (.aload_n 0, 1) := by decide +kernel
theorem dX7_by_43 : decode cX7_by 43 = .ok (.iconst 3, 1) := by decide +kernel
theorem dX7_by_44 : decode cX7_by 44 = .ok (.invokevirtual 66, 3) := by decide +kernel
theorem dX7_by_47 : decode cX7_by 47 = .ok (.goto 4, 3) := by decide +kernel
theorem dX7_by_50 : decode cX7_by 50 = .ok (.iload_n 3, 1) := by decide +kernel
theorem dX7_by_51 : decode cX7_by 51 = .ok (.ireturn, 1) := by decide +kernel
theorem dX7_grains_0 : decode cX7_grains 0 = .ok (.iload_n 1, 1) := by decide +kernel
theorem dX7_grains_1 : decode cX7_grains 1 = .ok (.iconst 0, 1) := by decide +kernel
theorem dX7_grains_2 : decode cX7_grains 2 = .ok (.iconst 3, 1) := by decide +kernel
theorem dX7_grains_3 : decode cX7_grains 3 = .ok (.invokestatic 62, 3) := by decide +kernel
theorem dX7_grains_6 : decode cX7_grains 6 = .ok (.ifCond .eq 14, 3) := by decide +kernel
theorem dX7_grains_9 : decode cX7_grains 9 = .ok (.iload_n 2, 1) := by decide +kernel
theorem dX7_grains_10 : decode cX7_grains 10 = .ok (.iconst 0, 1) := by decide +kernel
theorem dX7_grains_11 : decode cX7_grains 11 = .ok (.sipush 9999, 3) := by decide +kernel
theorem dX7_grains_14 : decode cX7_grains 14 = .ok (.invokestatic 62, 3) := by decide +kernel
theorem dX7_grains_17 : decode cX7_grains 17 = .ok (.ifCond .ne 9, 3) := by decide +kernel
theorem dX7_grains_20 : decode cX7_grains 20 = .ok (.aload_n 0, 1) := by decide +kernel
theorem dX7_grains_21 : decode cX7_grains 21 = .ok (.iconst 0, 1) := by decide +kernel
theorem dX7_grains_22 : decode cX7_grains 22 = .ok (.invokevirtual 66, 3) := by decide +kernel
theorem dX7_grains_25 : decode cX7_grains 25 = .ok (.ireturn, 1) := by decide +kernel
theorem dX7_grains_26 : decode cX7_grains 26 = .ok (.aload_n 0, 1) := by decide +kernel
theorem dX7_grains_27 : decode cX7_grains 27 = .ok (.getfield 10, 3) := by decide +kernel
theorem dX7_grains_30 : decode cX7_grains 30 = .ok (.getfield 135, 3) := by decide +kernel
theorem dX7_grains_33 : decode cX7_grains 33 = .ok (.getfield 154, 3) := by decide +kernel
theorem dX7_grains_36 : decode cX7_grains 36 = .ok (.iload_n 1, 1) := by decide +kernel
theorem dX7_grains_37 : decode cX7_grains 37 = .ok (.iload_n 2, 1) := by decide +kernel
theorem dX7_grains_38 : decode cX7_grains 38 = .ok (.invokestatic 125, 3) := by decide +kernel
theorem dX7_grains_41 : decode cX7_grains 41 = .ok (.ireturn, 1) := by decide +kernel
theorem dX7_now_0 : decode cX7_now 0 = .ok (.aload_n 0, 1) := by decide +kernel
theorem dX7_now_1 : decode cX7_now 1 = .ok (.getfield 10, 3) := by decide +kernel
theorem dX7_now_4 : decode cX7_now 4 = .ok (.getfield 135, 3) := by decide +kernel
theorem dX7_now_7 : decode cX7_now 7 = .ok (.astore_n 2, 1) := by decide +kernel
theorem dX7_now_8 : decode cX7_now 8 = .ok (.iload_n 1, 1) := by decide +kernel
theorem dX7_now_9 : decode cX7_now 9 = .ok (.iconst 0, 1) := by decide +kernel
theorem dX7_now_10 : decode cX7_now 10 = .ok (.iconst 3, 1) := by decide +kernel
theorem dX7_now_11 : decode cX7_now 11 = .ok (.invokestatic 62, 3) := by decide +kernel
theorem dX7_now_14 : decode cX7_now 14 = .ok (.ifCond .eq 10, 3) := by decide +kernel
theorem dX7_now_17 : decode cX7_now 17 = .ok (.aload_n 2, 1) := by decide +kernel
theorem dX7_now_18 : decode cX7_now 18 = .ok (.getfield 154, 3) := by decide +kernel
theorem dX7_now_21 : decode cX7_now 21 = .ok (.iload_n 1, 1) := by decide +kernel
theorem dX7_now_22 : decode cX7_now 22 = .ok (.iaload, 1) := by decide +kernel
theorem dX7_now_23 : decode cX7_now 23 = .ok (.ireturn, 1) := by decide +kernel
theorem dX7_now_24 : decode cX7_now 24 = .ok (.iload_n 1, 1) := by decide +kernel
theorem dX7_now_25 : decode cX7_now 25 = .ok (.tableswitch 69 4 9 #[39, 44, 49, 54, 59, 64], 39) := by decide +kernel
theorem dX7_now_64 : decode cX7_now 64 = .ok (.aload_n 2, 1) := by decide +kernel
theorem dX7_now_65 : decode cX7_now 65 = .ok (.invokevirtual 157, 3) := by decide +kernel
theorem dX7_now_68 : decode cX7_now 68 = .ok (.ireturn, 1) := by decide +kernel
theorem dX7_now_69 : decode cX7_now 69 = .ok (.aload_n 2, 1) := by decide +kernel
theorem dX7_now_70 : decode cX7_now 70 = .ok (.getfield 139, 3) := by decide +kernel
theorem dX7_now_73 : decode cX7_now 73 = .ok (.ireturn, 1) := by decide +kernel
theorem dX7_now_74 : decode cX7_now 74 = .ok (.aload_n 2, 1) := by decide +kernel
theorem dX7_now_75 : decode cX7_now 75 = .ok (.getfield 160, 3) := by decide +kernel
theorem dX7_now_78 : decode cX7_now 78 = .ok (.ireturn, 1) := by decide +kernel
theorem dX7_now_79 : decode cX7_now 79 = .ok (.aload_n 2, 1) := by decide +kernel
theorem dX7_now_80 : decode cX7_now 80 = .ok (.getfield 163, 3) := by decide +kernel
theorem dX7_now_83 : decode cX7_now 83 = .ok (.ireturn, 1) := by decide +kernel
theorem dX7_now_84 : decode cX7_now 84 = .ok (.aload_n 2, 1) := by decide +kernel
theorem dX7_now_85 : decode cX7_now 85 = .ok (.getfield 166, 3) := by decide +kernel
theorem dX7_now_88 : decode cX7_now 88 = .ok (.ireturn, 1) := by decide +kernel
theorem dX7_now_89 : decode cX7_now 89 = .ok (.aload_n 2, 1) := by decide +kernel
theorem dX7_now_90 : decode cX7_now 90 = .ok (.getfield 169, 3) := by decide +kernel
theorem dX7_now_93 : decode cX7_now 93 = .ok (.ireturn, 1) := by decide +kernel
theorem dX7_now_94 : decode cX7_now 94 = .ok (.aload_n 0, 1) := by decide +kernel
theorem dX7_now_95 : decode cX7_now 95 = .ok (.iconst 0, 1) := by decide +kernel
theorem dX7_now_96 : decode cX7_now 96 = .ok (.invokevirtual 66, 3) := by decide +kernel
theorem dX7_now_99 : decode cX7_now 99 = .ok (.ireturn, 1) := by decide +kernel
theorem dX7_made_0 : decode cX7_made 0 = .ok (.iload_n 1, 1) := by decide +kernel
theorem dX7_made_1 : decode cX7_made 1 = .ok (.iconst 0, 1) := by decide +kernel
theorem dX7_made_2 : decode cX7_made 2 = .ok (.iconst 1, 1) := by decide +kernel
theorem dX7_made_3 : decode cX7_made 3 = .ok (.invokestatic 62, 3) := by decide +kernel
theorem dX7_made_6 : decode cX7_made 6 = .ok (.ifCond .ne 9, 3) := by decide +kernel
theorem dX7_made_9 : decode cX7_made 9 = .ok (.aload_n 0, 1) := by decide +kernel
theorem dX7_made_10 : decode cX7_made 10 = .ok (.iconst 0, 1) := by decide +kernel
theorem dX7_made_11 : decode cX7_made 11 = .ok (.invokevirtual 66, 3) := by decide +kernel
theorem dX7_made_14 : decode cX7_made 14 = .ok (.ireturn, 1) := by decide +kernel
theorem dX7_made_15 : decode cX7_made 15 = .ok (.aload_n 0, 1) := by decide +kernel
theorem dX7_made_16 : decode cX7_made 16 = .ok (.getfield 10, 3) := by decide +kernel
theorem dX7_made_19 : decode cX7_made 19 = .ok (.getfield 135, 3) := by decide +kernel
theorem dX7_made_22 : decode cX7_made 22 = .ok (.getfield 139, 3) := by decide +kernel
theorem dX7_made_25 : decode cX7_made 25 = .ok (.istore_n 2, 1) := by decide +kernel
theorem dX7_made_26 : decode cX7_made 26 = .ok (.aload_n 0, 1) := by decide +kernel
theorem dX7_made_27 : decode cX7_made 27 = .ok (.getfield 10, 3) := by decide +kernel
theorem dX7_made_30 : decode cX7_made 30 = .ok (.getfield 135, 3) := by decide +kernel
theorem dX7_made_33 : decode cX7_made 33 = .ok (.iload_n 1, 1) := by decide +kernel
theorem dX7_made_34 : decode cX7_made 34 = .ok (.putfield 139, 3) := by decide +kernel
theorem dX7_made_37 : decode cX7_made 37 = .ok (.iload_n 2, 1) := by decide +kernel
theorem dX7_made_38 : decode cX7_made 38 = .ok (.ireturn, 1) := by decide +kernel
theorem dX7_carry_0 : decode cX7_carry 0 = .ok (.iload_n 1, 1) := by decide +kernel
theorem dX7_carry_1 : decode cX7_carry 1 = .ok (.invokestatic 59, 3) := by decide +kernel
theorem dX7_carry_4 : decode cX7_carry 4 = .ok (.ifCond .ne 9, 3) := by decide +kernel
theorem dX7_carry_7 : decode cX7_carry 7 = .ok (.aload_n 0, 1) := by decide +kernel
theorem dX7_carry_8 : decode cX7_carry 8 = .ok (.iconst 0, 1) := by decide +kernel
theorem dX7_carry_9 : decode cX7_carry 9 = .ok (.invokevirtual 66, 3) := by decide +kernel
theorem dX7_carry_12 : decode cX7_carry 12 = .ok (.ireturn, 1) := by decide +kernel
theorem dX7_carry_13 : decode cX7_carry 13 = .ok (.aload_n 0, 1) := by decide +kernel
theorem dX7_carry_14 : decode cX7_carry 14 = .ok (.getfield 10, 3) := by decide +kernel
theorem dX7_carry_17 : decode cX7_carry 17 = .ok (.getfield 70, 3) := by decide +kernel
theorem dX7_carry_20 : decode cX7_carry 20 = .ok (.aload_n 0, 1) := by decide +kernel
theorem dX7_carry_21 : decode cX7_carry 21 = .ok (.getfield 10, 3) := by decide +kernel
theorem dX7_carry_24 : decode cX7_carry 24 = .ok (.getfield 135, 3) := by decide +kernel
theorem dX7_carry_27 : decode cX7_carry 27 = .ok (.getfield 160, 3) := by decide +kernel
theorem dX7_carry_30 : decode cX7_carry 30 = .ok (.iload_n 1, 1) := by decide +kernel
theorem dX7_carry_31 : decode cX7_carry 31 = .ok (.invokevirtual 151, 3) := by decide +kernel
theorem dX7_carry_34 : decode cX7_carry 34 = .ok (.istore_n 2, 1) := by decide +kernel
theorem dX7_carry_35 : decode cX7_carry 35 = .ok (.iload_n 2, 1) := by decide +kernel
theorem dX7_carry_36 : decode cX7_carry 36 = .ok (.ifCond .ge 9, 3) := by decide +kernel
theorem dX7_carry_39 : decode cX7_carry 39 = .ok (.aload_n 0, 1) := by decide +kernel
theorem dX7_carry_40 : decode cX7_carry 40 = .ok (.iconst 3, 1) := by decide +kernel
theorem dX7_carry_41 : decode cX7_carry 41 = .ok (.invokevirtual 66, 3) := by decide +kernel
theorem dX7_carry_44 : decode cX7_carry 44 = .ok (.ireturn, 1) := by decide +kernel
theorem dX7_carry_45 : decode cX7_carry 45 = .ok (.aload_n 0, 1) := by decide +kernel
theorem dX7_carry_46 : decode cX7_carry 46 = .ok (.getfield 10, 3) := by decide +kernel
theorem dX7_carry_49 : decode cX7_carry 49 = .ok (.iload_n 2, 1) := by decide +kernel
theorem dX7_carry_50 : decode cX7_carry 50 = .ok (.invokevirtual 172, 3) := by decide +kernel
theorem dX7_carry_53 : decode cX7_carry 53 = .ok (.ifCond .eq 9, 3) := by decide +kernel
theorem dX7_carry_56 : decode cX7_carry 56 = .ok (.aload_n 0, 1) := by decide +kernel
theorem dX7_carry_57 : decode cX7_carry 57 = .ok (.iconst 4, 1) := by decide +kernel
theorem dX7_carry_58 : decode cX7_carry 58 = .ok (.invokevirtual 66, 3) := by decide +kernel
theorem dX7_carry_61 : decode cX7_carry 61 = .ok (.ireturn, 1) := by decide +kernel
theorem dX7_carry_62 : decode cX7_carry 62 = .ok (.aload_n 0, 1) := by decide +kernel
theorem dX7_carry_63 : decode cX7_carry 63 = .ok (.getfield 10, 3) := by decide +kernel
theorem dX7_carry_66 : decode cX7_carry 66 = .ok (.iload_n 2, 1) := by decide +kernel
theorem dX7_carry_67 : decode cX7_carry 67 = .ok (.iload_n 1, 1) := by decide +kernel
theorem dX7_carry_68 : decode cX7_carry 68 = .ok (.invokevirtual 175, 3) := by decide +kernel
theorem dX7_carry_71 : decode cX7_carry 71 = .ok (.ireturn, 1) := by decide +kernel
theorem dX7_wait_0 : decode cX7_wait 0 = .ok (.iload_n 1, 1) := by decide +kernel
theorem dX7_wait_1 : decode cX7_wait 1 = .ok (.iconst 1, 1) := by decide +kernel
theorem dX7_wait_2 : decode cX7_wait 2 = .ok (.bipush 60, 2) := by decide +kernel
theorem dX7_wait_4 : decode cX7_wait 4 = .ok (.invokestatic 62, 3) := by decide +kernel
theorem dX7_wait_7 : decode cX7_wait 7 = .ok (.ifCond .ne 9, 3) := by decide +kernel
theorem dX7_wait_10 : decode cX7_wait 10 = .ok (.aload_n 0, 1) := by decide +kernel
theorem dX7_wait_11 : decode cX7_wait 11 = .ok (.iconst 0, 1) := by decide +kernel
theorem dX7_wait_12 : decode cX7_wait 12 = .ok (.invokevirtual 66, 3) := by decide +kernel
theorem dX7_wait_15 : decode cX7_wait 15 = .ok (.ireturn, 1) := by decide +kernel
theorem dX7_wait_16 : decode cX7_wait 16 = .ok (.aload_n 0, 1) := by decide +kernel
theorem dX7_wait_17 : decode cX7_wait 17 = .ok (.getfield 10, 3) := by decide +kernel
theorem dX7_wait_20 : decode cX7_wait 20 = .ok (.getfield 135, 3) := by decide +kernel
theorem dX7_wait_23 : decode cX7_wait 23 = .ok (.getfield 163, 3) := by decide +kernel
theorem dX7_wait_26 : decode cX7_wait 26 = .ok (.iload_n 1, 1) := by decide +kernel
theorem dX7_wait_27 : decode cX7_wait 27 = .ok (.iadd, 1) := by decide +kernel
theorem dX7_wait_28 : decode cX7_wait 28 = .ok (.sipush 999, 3) := by decide +kernel
theorem dX7_wait_31 : decode cX7_wait 31 = .ok (.if_icmp .le 9, 3) := by decide +kernel
theorem dX7_wait_34 : decode cX7_wait 34 = .ok (.aload_n 0, 1) := by decide +kernel
theorem dX7_wait_35 : decode cX7_wait 35 = .ok (.iconst 4, 1) := by decide +kernel
theorem dX7_wait_36 : decode cX7_wait 36 = .ok (.invokevirtual 66, 3) := by decide +kernel
theorem dX7_wait_39 : decode cX7_wait 39 = .ok (.ireturn, 1) := by decide +kernel
theorem dX7_wait_40 : decode cX7_wait 40 = .ok (.aload_n 0, 1) := by decide +kernel
theorem dX7_wait_41 : decode cX7_wait 41 = .ok (.getfield 10, 3) := by decide +kernel
theorem dX7_wait_44 : decode cX7_wait 44 = .ok (.getfield 135, 3) := by decide +kernel
theorem dX7_wait_47 : decode cX7_wait 47 = .ok (.dup, 1) := by decide +kernel
theorem dX7_wait_48 : decode cX7_wait 48 = .ok (.getfield 163, 3) := by decide +kernel
theorem dX7_wait_51 : decode cX7_wait 51 = .ok (.iload_n 1, 1) := by decide +kernel
theorem dX7_wait_52 : decode cX7_wait 52 = .ok (.iadd, 1) := by decide +kernel
theorem dX7_wait_53 : decode cX7_wait 53 = .ok (.putfield 163, 3) := by decide +kernel
theorem dX7_wait_56 : decode cX7_wait 56 = .ok (.aload_n 0, 1) := by decide +kernel
theorem dX7_wait_57 : decode cX7_wait 57 = .ok (.getfield 10, 3) := by decide +kernel
theorem dX7_wait_60 : decode cX7_wait 60 = .ok (.getfield 135, 3) := by decide +kernel
theorem dX7_wait_63 : decode cX7_wait 63 = .ok (.getfield 163, 3) := by decide +kernel
theorem dX7_wait_66 : decode cX7_wait 66 = .ok (.ireturn, 1) := by decide +kernel
theorem dX7_day_0 : decode cX7_day 0 = .ok (.aload_n 0, 1) := by decide +kernel
theorem dX7_day_1 : decode cX7_day 1 = .ok (.getfield 10, 3) := by decide +kernel
theorem dX7_day_4 : decode cX7_day 4 = .ok (.getfield 135, 3) := by decide +kernel
theorem dX7_day_7 : decode cX7_day 7 = .ok (.getfield 166, 3) := by decide +kernel
theorem dX7_day_10 : decode cX7_day 10 = .ok (.invokestatic 178, 3) := by decide +kernel
theorem dX7_day_13 : decode cX7_day 13 = .ok (.istore_n 1, 1) := by decide +kernel
theorem dX7_day_14 : decode cX7_day 14 = .ok (.aload_n 0, 1) := by decide +kernel
theorem dX7_day_15 : decode cX7_day 15 = .ok (.getfield 10, 3) := by decide +kernel
theorem dX7_day_18 : decode cX7_day 18 = .ok (.getfield 135, 3) := by decide +kernel
theorem dX7_day_21 : decode cX7_day 21 = .ok (.invokevirtual 183, 3) := by decide +kernel
theorem dX7_day_24 : decode cX7_day 24 = .ok (.iload_n 1, 1) := by decide +kernel
theorem dX7_day_25 : decode cX7_day 25 = .ok (.ireturn, 1) := by decide +kernel
theorem dX7_costs_0 : decode cX7_costs 0 = .ok (.aload_n 0, 1) := by decide +kernel
theorem dX7_costs_1 : decode cX7_costs 1 = .ok (.getfield 10, 3) := by decide +kernel
theorem dX7_costs_4 : decode cX7_costs 4 = .ok (.getfield 70, 3) := by decide +kernel
theorem dX7_costs_7 : decode cX7_costs 7 = .ok (.iload_n 1, 1) := by decide +kernel
theorem dX7_costs_8 : decode cX7_costs 8 = .ok (.invokevirtual 81, 3) := by decide +kernel
theorem dX7_costs_11 : decode cX7_costs 11 = .ok (.ifCond .eq 14, 3) := by decide +kernel
theorem dX7_costs_14 : decode cX7_costs 14 = .ok (.iload_n 2, 1) := by decide +kernel
theorem dX7_costs_15 : decode cX7_costs 15 = .ok (.iconst 0, 1) := by decide +kernel
theorem dX7_costs_16 : decode cX7_costs 16 = .ok (.sipush 999, 3) := by decide +kernel
theorem dX7_costs_19 : decode cX7_costs 19 = .ok (.invokestatic 62, 3) := by decide +kernel
theorem dX7_costs_22 : decode cX7_costs 22 = .ok (.ifCond .ne 9, 3) := by decide +kernel
theorem dX7_costs_25 : decode cX7_costs 25 = .ok (.aload_n 0, 1) := by decide +kernel
theorem dX7_costs_26 : decode cX7_costs 26 = .ok (.iconst 0, 1) := by decide +kernel
theorem dX7_costs_27 : decode cX7_costs 27 = .ok (.invokevirtual 66, 3) := by decide +kernel
theorem dX7_costs_30 : decode cX7_costs 30 = .ok (.ireturn, 1) := by decide +kernel
theorem dX7_costs_31 : decode cX7_costs 31 = .ok (.aload_n 0, 1) := by decide +kernel
theorem dX7_costs_32 : decode cX7_costs 32 = .ok (.aload_n 0, 1) := by decide +kernel
theorem dX7_costs_33 : decode cX7_costs 33 = .ok (.getfield 10, 3) := by decide +kernel
theorem dX7_costs_36 : decode cX7_costs 36 = .ok (.getfield 70, 3) := by decide +kernel
theorem dX7_costs_39 : decode cX7_costs 39 = .ok (.iload_n 1, 1) := by decide +kernel
theorem dX7_costs_40 : decode cX7_costs 40 = .ok (.iload_n 2, 1) := by decide +kernel
theorem dX7_costs_41 : decode cX7_costs 41 = .ok (.invokevirtual 186, 3) := by decide +kernel
theorem dX7_costs_44 : decode cX7_costs 44 = .ok (.ireturn, 1) := by decide +kernel
theorem dX7_most_0 : decode cX7_most 0 = .ok (.aload_n 0, 1) := by decide +kernel
theorem dX7_most_1 : decode cX7_most 1 = .ok (.iload_n 1, 1) := by decide +kernel
theorem dX7_most_2 : decode cX7_most 2 = .ok (.invokevirtual 190, 3) := by decide +kernel
theorem dX7_most_5 : decode cX7_most 5 = .ok (.istore_n 2, 1) := by decide +kernel
theorem dX7_most_6 : decode cX7_most 6 = .ok (.iload_n 2, 1) := by decide +kernel
theorem dX7_most_7 : decode cX7_most 7 = .ok (.ifCond .eq 5, 3) := by decide +kernel
theorem dX7_most_10 : decode cX7_most 10 = .ok (.iload_n 2, 1) := by decide +kernel
theorem dX7_most_11 : decode cX7_most 11 = .ok (.ireturn, 1) := by decide +kernel
theorem dX7_most_12 : decode cX7_most 12 = .ok (.aload_n 0, 1) := by decide +kernel
theorem dX7_most_13 : decode cX7_most 13 = .ok (.getfield 33, 3) := by decide +kernel
theorem dX7_most_16 : decode cX7_most 16 = .ok (.getfield 193, 3) := by decide +kernel
theorem dX7_most_19 : decode cX7_most 19 = .ok (.ireturn, 1) := by decide +kernel
theorem dX7_way_0 : decode cX7_way 0 = .ok (.iload_n 2, 1) := by decide +kernel
theorem dX7_way_1 : decode cX7_way 1 = .ok (.iconst 0, 1) := by decide +kernel
theorem dX7_way_2 : decode cX7_way 2 = .ok (.bipush 6, 2) := by decide +kernel
theorem dX7_way_4 : decode cX7_way 4 = .ok (.invokestatic 62, 3) := by decide +kernel
theorem dX7_way_7 : decode cX7_way 7 = .ok (.ifCond .ne 9, 3) := by decide +kernel
theorem dX7_way_10 : decode cX7_way 10 = .ok (.aload_n 0, 1) := by decide +kernel
theorem dX7_way_11 : decode cX7_way 11 = .ok (.iconst 0, 1) := by decide +kernel
theorem dX7_way_12 : decode cX7_way 12 = .ok (.invokevirtual 66, 3) := by decide +kernel
theorem dX7_way_15 : decode cX7_way 15 = .ok (.ireturn, 1) := by decide +kernel
theorem dX7_way_16 : decode cX7_way 16 = .ok (.aload_n 0, 1) := by decide +kernel
theorem dX7_way_17 : decode cX7_way 17 = .ok (.iload_n 1, 1) := by decide +kernel
theorem dX7_way_18 : decode cX7_way 18 = .ok (.invokevirtual 190, 3) := by decide +kernel
theorem dX7_way_21 : decode cX7_way 21 = .ok (.istore_n 3, 1) := by decide +kernel
theorem dX7_way_22 : decode cX7_way 22 = .ok (.iload_n 3, 1) := by decide +kernel
theorem dX7_way_23 : decode cX7_way 23 = .ok (.ifCond .eq 5, 3) := by decide +kernel
theorem dX7_way_26 : decode cX7_way 26 = .ok (.iload_n 3, 1) := by decide +kernel
theorem dX7_way_27 : decode cX7_way 27 = .ok (.ireturn, 1) := by decide +kernel
theorem dX7_way_28 : decode cX7_way 28 = .ok (.iload_n 2, 1) := by decide +kernel
theorem dX7_way_29 : decode cX7_way 29 = .ok (.aload_n 0, 1) := by decide +kernel
theorem dX7_way_30 : decode cX7_way 30 = .ok (.getfield 33, 3) := by decide +kernel
theorem dX7_way_33 : decode cX7_way 33 = .ok (.getfield 196, 3) := by decide +kernel
theorem dX7_way_36 : decode cX7_way 36 = .ok (.if_icmp .ge 15, 3) := by decide +kernel
theorem dX7_way_39 : decode cX7_way 39 = .ok (.aload_n 0, 1) := by decide +kernel
theorem dX7_way_40 : decode cX7_way 40 = .ok (.getfield 33, 3) := by decide +kernel
theorem dX7_way_43 : decode cX7_way 43 = .ok (.getfield 199, 3) := by decide +kernel
theorem dX7_way_46 : decode cX7_way 46 = .ok (.iload_n 2, 1) := by decide +kernel
theorem dX7_way_47 : decode cX7_way 47 = .ok (.iaload, 1) := by decide +kernel
theorem dX7_way_48 : decode cX7_way 48 = .ok (.goto 8, 3) := by decide +kernel
theorem dX7_way_51 : decode cX7_way 51 = .ok (.aload_n 0, 1) := by decide +kernel
theorem dX7_way_52 : decode cX7_way 52 = .ok (.iconst 3, 1) := by decide +kernel
theorem dX7_way_53 : decode cX7_way 53 = .ok (.invokevirtual 66, 3) := by decide +kernel
theorem dX7_way_56 : decode cX7_way 56 = .ok (.ireturn, 1) := by decide +kernel
theorem dX7_soonest_0 : decode cX7_soonest 0 = .ok (.aload_n 0, 1) := by decide +kernel
theorem dX7_soonest_1 : decode cX7_soonest 1 = .ok (.iload_n 1, 1) := by decide +kernel
theorem dX7_soonest_2 : decode cX7_soonest 2 = .ok (.invokevirtual 190, 3) := by decide +kernel
theorem dX7_soonest_5 : decode cX7_soonest 5 = .ok (.istore_n 2, 1) := by decide +kernel
theorem dX7_soonest_6 : decode cX7_soonest 6 = .ok (.iload_n 2, 1) := by decide +kernel
theorem dX7_soonest_7 : decode cX7_soonest 7 = .ok (.ifCond .eq 5, 3) := by decide +kernel
theorem dX7_soonest_10 : decode cX7_soonest 10 = .ok (.iload_n 2, 1) := by decide +kernel
theorem dX7_soonest_11 : decode cX7_soonest 11 = .ok (.ireturn, 1) := by decide +kernel
theorem dX7_soonest_12 : decode cX7_soonest 12 = .ok (.aload_n 0, 1) := by decide +kernel
theorem dX7_soonest_13 : decode cX7_soonest 13 = .ok (.getfield 33, 3) := by decide +kernel
theorem dX7_soonest_16 : decode cX7_soonest 16 = .ok (.getfield 202, 3) := by decide +kernel
theorem dX7_soonest_19 : decode cX7_soonest 19 = .ok (.ireturn, 1) := by decide +kernel
theorem dX7_ways_0 : decode cX7_ways 0 = .ok (.iload_n 1, 1) := by decide +kernel
theorem dX7_ways_1 : decode cX7_ways 1 = .ok (.invokestatic 59, 3) := by decide +kernel
theorem dX7_ways_4 : decode cX7_ways 4 = .ok (.ifCond .ne 9, 3) := by decide +kernel
theorem dX7_ways_7 : decode cX7_ways 7 = .ok (.aload_n 0, 1) := by decide +kernel
theorem dX7_ways_8 : decode cX7_ways 8 = .ok (.iconst 0, 1) := by decide +kernel
theorem dX7_ways_9 : decode cX7_ways 9 = .ok (.invokevirtual 66, 3) := by decide +kernel
theorem dX7_ways_12 : decode cX7_ways 12 = .ok (.ireturn, 1) := by decide +kernel
theorem dX7_ways_13 : decode cX7_ways 13 = .ok (.aload_n 0, 1) := by decide +kernel
theorem dX7_ways_14 : decode cX7_ways 14 = .ok (.iload_n 1, 1) := by decide +kernel
theorem dX7_ways_15 : decode cX7_ways 15 = .ok (.invokevirtual 205, 3) := by decide +kernel
theorem dX7_ways_18 : decode cX7_ways 18 = .ok (.aload_n 0, 1) := by decide +kernel
theorem dX7_ways_19 : decode cX7_ways 19 = .ok (.getfield 33, 3) := by decide +kernel
theorem dX7_ways_22 : decode cX7_ways 22 = .ok (.getfield 209, 3) := by decide +kernel
theorem dX7_ways_25 : decode cX7_ways 25 = .ok (.ireturn, 1) := by decide +kernel
theorem dX7_round_0 : decode cX7_round 0 = .ok (.aload_n 0, 1) := by decide +kernel
theorem dX7_round_1 : decode cX7_round 1 = .ok (.invokevirtual 212, 3) := by decide +kernel
theorem dX7_round_4 : decode cX7_round 4 = .ok (.ifCond .eq 9, 3) := by decide +kernel
theorem dX7_round_7 : decode cX7_round 7 = .ok (.aload_n 0, 1) := by decide +kernel
theorem dX7_round_8 : decode cX7_round 8 = .ok (.iconst 4, 1) := by decide +kernel
theorem dX7_round_9 : decode cX7_round 9 = .ok (.invokevirtual 66, 3) := by decide +kernel
theorem dX7_round_12 : decode cX7_round 12 = .ok (.ireturn, 1) := by decide +kernel
theorem dX7_round_13 : decode cX7_round 13 = .ok (.aload_n 0, 1) := by decide +kernel
theorem dX7_round_14 : decode cX7_round 14 = .ok (.aload_n 0, 1) := by decide +kernel
theorem dX7_round_15 : decode cX7_round 15 = .ok (.getfield 10, 3) := by decide +kernel
theorem dX7_round_18 : decode cX7_round 18 = .ok (.getfield 70, 3) := by decide +kernel
theorem dX7_round_21 : decode cX7_round 21 = .ok (.aload_n 0, 1) := by decide +kernel
theorem dX7_round_22 : decode cX7_round 22 = .ok (.getfield 10, 3) := by decide +kernel
theorem dX7_round_25 : decode cX7_round 25 = .ok (.getfield 135, 3) := by decide +kernel
theorem dX7_round_28 : decode cX7_round 28 = .ok (.getfield 139, 3) := by decide +kernel
theorem dX7_round_31 : decode cX7_round 31 = .ok (.iconst (-1), 1) := by decide +kernel
theorem dX7_round_32 : decode cX7_round 32 = .ok (.invokevirtual 215, 3) := by decide +kernel
theorem dX7_round_35 : decode cX7_round 35 = .ok (.aload_n 0, 1) := by decide +kernel
theorem dX7_round_36 : decode cX7_round 36 = .ok (.getfield 33, 3) := by decide +kernel
theorem dX7_round_39 : decode cX7_round 39 = .ok (.getfield 209, 3) := by decide +kernel
theorem dX7_round_42 : decode cX7_round 42 = .ok (.ifCond .ne 11, 3) := by decide +kernel
theorem dX7_round_45 : decode cX7_round 45 = .ok (.aload_n 0, 1) := by decide +kernel
theorem dX7_round_46 : decode cX7_round 46 = .ok (.iconst 3, 1) := by decide +kernel
theorem dX7_round_47 : decode cX7_round 47 = .ok (.invokevirtual 66, 3) := by decide +kernel
theorem dX7_round_50 : decode cX7_round 50 = .ok (.goto 10, 3) := by decide +kernel
theorem dX7_round_53 : decode cX7_round 53 = .ok (.aload_n 0, 1) := by decide +kernel
theorem dX7_round_54 : decode cX7_round 54 = .ok (.getfield 33, 3) := by decide +kernel
theorem dX7_round_57 : decode cX7_round 57 = .ok (.getfield 193, 3) := by decide +kernel
theorem dX7_round_60 : decode cX7_round 60 = .ok (.ireturn, 1) := by decide +kernel
theorem dX7_ith_0 : decode cX7_ith 0 = .ok (.iload_n 1, 1) := by decide +kernel
theorem dX7_ith_1 : decode cX7_ith 1 = .ok (.iconst 0, 1) := by decide +kernel
theorem dX7_ith_2 : decode cX7_ith 2 = .ok (.bipush 6, 2) := by decide +kernel
theorem dX7_ith_4 : decode cX7_ith 4 = .ok (.invokestatic 62, 3) := by decide +kernel
theorem dX7_ith_7 : decode cX7_ith 7 = .ok (.ifCond .ne 9, 3) := by decide +kernel
theorem dX7_ith_10 : decode cX7_ith 10 = .ok (.aload_n 0, 1) := by decide +kernel
theorem dX7_ith_11 : decode cX7_ith 11 = .ok (.iconst 0, 1) := by decide +kernel
theorem dX7_ith_12 : decode cX7_ith 12 = .ok (.invokevirtual 66, 3) := by decide +kernel
theorem dX7_ith_15 : decode cX7_ith 15 = .ok (.ireturn, 1) := by decide +kernel
theorem dX7_ith_16 : decode cX7_ith 16 = .ok (.aload_n 0, 1) := by decide +kernel
theorem dX7_ith_17 : decode cX7_ith 17 = .ok (.invokevirtual 212, 3) := by decide +kernel
theorem dX7_ith_20 : decode cX7_ith 20 = .ok (.ifCond .eq 9, 3) := by decide +kernel
theorem dX7_ith_23 : decode cX7_ith 23 = .ok (.aload_n 0, 1) := by decide +kernel
theorem dX7_ith_24 : decode cX7_ith 24 = .ok (.iconst 4, 1) := by decide +kernel
theorem dX7_ith_25 : decode cX7_ith 25 = .ok (.invokevirtual 66, 3) := by decide +kernel
theorem dX7_ith_28 : decode cX7_ith 28 = .ok (.ireturn, 1) := by decide +kernel
theorem dX7_ith_29 : decode cX7_ith 29 = .ok (.aload_n 0, 1) := by decide +kernel
theorem dX7_ith_30 : decode cX7_ith 30 = .ok (.aload_n 0, 1) := by decide +kernel
theorem dX7_ith_31 : decode cX7_ith 31 = .ok (.getfield 10, 3) := by decide +kernel
theorem dX7_ith_34 : decode cX7_ith 34 = .ok (.getfield 70, 3) := by decide +kernel
theorem dX7_ith_37 : decode cX7_ith 37 = .ok (.aload_n 0, 1) := by decide +kernel
theorem dX7_ith_38 : decode cX7_ith 38 = .ok (.getfield 10, 3) := by decide +kernel
theorem dX7_ith_41 : decode cX7_ith 41 = .ok (.getfield 135, 3) := by decide +kernel
theorem dX7_ith_44 : decode cX7_ith 44 = .ok (.getfield 139, 3) := by decide +kernel
theorem dX7_ith_47 : decode cX7_ith 47 = .ok (.iconst (-1), 1) := by decide +kernel
theorem dX7_ith_48 : decode cX7_ith 48 = .ok (.invokevirtual 215, 3) := by decide +kernel
theorem dX7_ith_51 : decode cX7_ith 51 = .ok (.iload_n 1, 1) := by decide +kernel
theorem dX7_ith_52 : decode cX7_ith 52 = .ok (.aload_n 0, 1) := by decide +kernel
theorem dX7_ith_53 : decode cX7_ith 53 = .ok (.getfield 33, 3) := by decide +kernel
theorem dX7_ith_56 : decode cX7_ith 56 = .ok (.getfield 196, 3) := by decide +kernel
theorem dX7_ith_59 : decode cX7_ith 59 = .ok (.if_icmp .ge 15, 3) := by decide +kernel
theorem dX7_ith_62 : decode cX7_ith 62 = .ok (.aload_n 0, 1) := by decide +kernel
theorem dX7_ith_63 : decode cX7_ith 63 = .ok (.getfield 33, 3) := by decide +kernel
theorem dX7_ith_66 : decode cX7_ith 66 = .ok (.getfield 199, 3) := by decide +kernel
theorem dX7_ith_69 : decode cX7_ith 69 = .ok (.iload_n 1, 1) := by decide +kernel
theorem dX7_ith_70 : decode cX7_ith 70 = .ok (.iaload, 1) := by decide +kernel
theorem dX7_ith_71 : decode cX7_ith 71 = .ok (.goto 8, 3) := by decide +kernel
theorem dX7_ith_74 : decode cX7_ith 74 = .ok (.aload_n 0, 1) := by decide +kernel
theorem dX7_ith_75 : decode cX7_ith 75 = .ok (.iconst 3, 1) := by decide +kernel
theorem dX7_ith_76 : decode cX7_ith 76 = .ok (.invokevirtual 66, 3) := by decide +kernel
theorem dX7_ith_79 : decode cX7_ith 79 = .ok (.ireturn, 1) := by decide +kernel
theorem dX7_rounds_0 : decode cX7_rounds 0 = .ok (.aload_n 0, 1) := by decide +kernel
theorem dX7_rounds_1 : decode cX7_rounds 1 = .ok (.invokevirtual 212, 3) := by decide +kernel
theorem dX7_rounds_4 : decode cX7_rounds 4 = .ok (.ifCond .eq 9, 3) := by decide +kernel
theorem dX7_rounds_7 : decode cX7_rounds 7 = .ok (.aload_n 0, 1) := by decide +kernel
theorem dX7_rounds_8 : decode cX7_rounds 8 = .ok (.iconst 4, 1) := by decide +kernel
theorem dX7_rounds_9 : decode cX7_rounds 9 = .ok (.invokevirtual 66, 3) := by decide +kernel
theorem dX7_rounds_12 : decode cX7_rounds 12 = .ok (.ireturn, 1) := by decide +kernel
theorem dX7_rounds_13 : decode cX7_rounds 13 = .ok (.aload_n 0, 1) := by decide +kernel
theorem dX7_rounds_14 : decode cX7_rounds 14 = .ok (.aload_n 0, 1) := by decide +kernel
theorem dX7_rounds_15 : decode cX7_rounds 15 = .ok (.getfield 10, 3) := by decide +kernel
theorem dX7_rounds_18 : decode cX7_rounds 18 = .ok (.getfield 70, 3) := by decide +kernel
theorem dX7_rounds_21 : decode cX7_rounds 21 = .ok (.aload_n 0, 1) := by decide +kernel
theorem dX7_rounds_22 : decode cX7_rounds 22 = .ok (.getfield 10, 3) := by decide +kernel
theorem dX7_rounds_25 : decode cX7_rounds 25 = .ok (.getfield 135, 3) := by decide +kernel
theorem dX7_rounds_28 : decode cX7_rounds 28 = .ok (.getfield 139, 3) := by decide +kernel
theorem dX7_rounds_31 : decode cX7_rounds 31 = .ok (.iconst (-1), 1) := by decide +kernel
theorem dX7_rounds_32 : decode cX7_rounds 32 = .ok (.invokevirtual 215, 3) := by decide +kernel
theorem dX7_rounds_35 : decode cX7_rounds 35 = .ok (.aload_n 0, 1) := by decide +kernel
theorem dX7_rounds_36 : decode cX7_rounds 36 = .ok (.getfield 33, 3) := by decide +kernel
theorem dX7_rounds_39 : decode cX7_rounds 39 = .ok (.getfield 209, 3) := by decide +kernel
theorem dX7_rounds_42 : decode cX7_rounds 42 = .ok (.ireturn, 1) := by decide +kernel
theorem dX7_start_0 : decode cX7_start 0 = .ok (.aload_n 0, 1) := by decide +kernel
theorem dX7_start_1 : decode cX7_start 1 = .ok (.invokevirtual 212, 3) := by decide +kernel
theorem dX7_start_4 : decode cX7_start 4 = .ok (.ifCond .eq 9, 3) := by decide +kernel
theorem dX7_start_7 : decode cX7_start 7 = .ok (.aload_n 0, 1) := by decide +kernel
theorem dX7_start_8 : decode cX7_start 8 = .ok (.iconst 4, 1) := by decide +kernel
theorem dX7_start_9 : decode cX7_start 9 = .ok (.invokevirtual 66, 3) := by decide +kernel
theorem dX7_start_12 : decode cX7_start 12 = .ok (.ireturn, 1) := by decide +kernel
theorem dX7_start_13 : decode cX7_start 13 = .ok (.iconst (-1), 1) := by decide +kernel
theorem dX7_start_14 : decode cX7_start 14 = .ok (.istore_n 1, 1) := by decide +kernel
theorem dX7_start_15 : decode cX7_start 15 = .ok (.iconst (-1), 1) := by decide +kernel
theorem dX7_start_16 : decode cX7_start 16 = .ok (.istore_n 2, 1) := by decide +kernel
theorem dX7_start_17 : decode cX7_start 17 = .ok (.aload_n 0, 1) := by decide +kernel
theorem dX7_start_18 : decode cX7_start 18 = .ok (.getfield 33, 3) := by decide +kernel
theorem dX7_start_21 : decode cX7_start 21 = .ok (.aload_n 0, 1) := by decide +kernel
theorem dX7_start_22 : decode cX7_start 22 = .ok (.getfield 10, 3) := by decide +kernel
theorem dX7_start_25 : decode cX7_start 25 = .ok (.getfield 70, 3) := by decide +kernel
theorem dX7_start_28 : decode cX7_start 28 = .ok (.aload_n 0, 1) := by decide +kernel
theorem dX7_start_29 : decode cX7_start 29 = .ok (.getfield 10, 3) := by decide +kernel
theorem dX7_start_32 : decode cX7_start 32 = .ok (.getfield 135, 3) := by decide +kernel
theorem dX7_start_35 : decode cX7_start 35 = .ok (.aload_n 0, 1) := by decide +kernel
theorem dX7_start_36 : decode cX7_start 36 = .ok (.getfield 10, 3) := by decide +kernel
theorem dX7_start_39 : decode cX7_start 39 = .ok (.getfield 135, 3) := by decide +kernel
theorem dX7_start_42 : decode cX7_start 42 = .ok (.getfield 139, 3) := by decide +kernel
theorem dX7_start_45 : decode cX7_start 45 = .ok (.iconst (-1), 1) := by decide +kernel
theorem dX7_start_46 : decode cX7_start 46 = .ok (.invokevirtual 219, 3) := by decide +kernel
theorem dX7_start_49 : decode cX7_start 49 = .ok (.iconst 0, 1) := by decide +kernel
theorem dX7_start_50 : decode cX7_start 50 = .ok (.istore_n 3, 1) := by decide +kernel
theorem dX7_start_51 : decode cX7_start 51 = .ok (.iload_n 3, 1) := by decide +kernel
theorem dX7_start_52 : decode cX7_start 52 = .ok (.bipush 60, 2) := by decide +kernel
theorem dX7_start_54 : decode cX7_start 54 = .ok (.if_icmp .gt 50, 3) := by decide +kernel
theorem dX7_start_57 : decode cX7_start 57 = .ok (.aload_n 0, 1) := by decide +kernel
theorem dX7_start_58 : decode cX7_start 58 = .ok (.getfield 33, 3) := by decide +kernel
theorem dX7_start_61 : decode cX7_start 61 = .ok (.iconst (-1), 1) := by decide +kernel
theorem dX7_start_62 : decode cX7_start 62 = .ok (.aload_n 0, 1) := by decide +kernel
theorem dX7_start_63 : decode cX7_start 63 = .ok (.getfield 10, 3) := by decide +kernel
theorem dX7_start_66 : decode cX7_start 66 = .ok (.getfield 135, 3) := by decide +kernel
theorem dX7_start_69 : decode cX7_start 69 = .ok (.getfield 163, 3) := by decide +kernel
theorem dX7_start_72 : decode cX7_start 72 = .ok (.iload_n 3, 1) := by decide +kernel
theorem dX7_start_73 : decode cX7_start 73 = .ok (.iadd, 1) := by decide +kernel
theorem dX7_start_74 : decode cX7_start 74 = .ok (.invokevirtual 223, 3) := by decide +kernel
theorem dX7_start_77 : decode cX7_start 77 = .ok (.aload_n 0, 1) := by decide +kernel
theorem dX7_start_78 : decode cX7_start 78 = .ok (.getfield 33, 3) := by decide +kernel
theorem dX7_start_81 : decode cX7_start 81 = .ok (.getfield 193, 3) := by decide +kernel
theorem dX7_start_84 : decode cX7_start 84 = .ok (.iload_n 2, 1) := by decide +kernel
theorem dX7_start_85 : decode cX7_start 85 = .ok (.if_icmp .le 13, 3) := by decide +kernel
theorem dX7_start_88 : decode cX7_start 88 = .ok (.aload_n 0, 1) := by decide +kernel
theorem dX7_start_89 : decode cX7_start 89 = .ok (.getfield 33, 3) := by decide +kernel
theorem dX7_start_92 : decode cX7_start 92 = .ok (.getfield 193, 3) := by decide +kernel
theorem dX7_start_95 : decode cX7_start 95 = .ok (.istore_n 2, 1) := by decide +kernel
theorem dX7_start_96 : decode cX7_start 96 = .ok (.iload_n 3, 1) := by decide +kernel
theorem dX7_start_97 : decode cX7_start 97 = .ok (.istore_n 1, 1) := by decide +kernel
theorem dX7_start_98 : decode cX7_start 98 = .ok (.iinc 3 1, 3) := by decide +kernel
theorem dX7_start_101 : decode cX7_start 101 = .ok (.goto (-50), 3) := by decide +kernel
theorem dX7_start_104 : decode cX7_start 104 = .ok (.iload_n 1, 1) := by decide +kernel
theorem dX7_start_105 : decode cX7_start 105 = .ok (.ifCond .ge 11, 3) := by decide +kernel
theorem dX7_start_108 : decode cX7_start 108 = .ok (.aload_n 0, 1) := by decide +kernel
theorem dX7_start_109 : decode cX7_start 109 = .ok (.iconst 3, 1) := by decide +kernel
theorem dX7_start_110 : decode cX7_start 110 = .ok (.invokevirtual 66, 3) := by decide +kernel
theorem dX7_start_113 : decode cX7_start 113 = .ok (.goto 4, 3) := by decide +kernel
theorem dX7_start_116 : decode cX7_start 116 = .ok (.iload_n 1, 1) := by decide +kernel
theorem dX7_start_117 : decode cX7_start 117 = .ok (.ireturn, 1) := by decide +kernel
theorem dX7_better_0 : decode cX7_better 0 = .ok (.aload_n 0, 1) := by decide +kernel
theorem dX7_better_1 : decode cX7_better 1 = .ok (.invokevirtual 212, 3) := by decide +kernel
theorem dX7_better_4 : decode cX7_better 4 = .ok (.ifCond .eq 9, 3) := by decide +kernel
theorem dX7_better_7 : decode cX7_better 7 = .ok (.aload_n 0, 1) := by decide +kernel
theorem dX7_better_8 : decode cX7_better 8 = .ok (.iconst 4, 1) := by decide +kernel
theorem dX7_better_9 : decode cX7_better 9 = .ok (.invokevirtual 66, 3) := by decide +kernel
theorem dX7_better_12 : decode cX7_better 12 = .ok (.ireturn, 1) := by decide +kernel
theorem dX7_better_13 : decode cX7_better 13 = .ok (.iconst (-1), 1) := by decide +kernel
theorem dX7_better_14 : decode cX7_better 14 = .ok (.istore_n 1, 1) := by decide +kernel
theorem dX7_better_15 : decode cX7_better 15 = .ok (.iconst (-1), 1) := by decide +kernel
theorem dX7_better_16 : decode cX7_better 16 = .ok (.istore_n 2, 1) := by decide +kernel
theorem dX7_better_17 : decode cX7_better 17 = .ok (.iconst 0, 1) := by decide +kernel
theorem dX7_better_18 : decode cX7_better 18 = .ok (.istore_n 3, 1) := by decide +kernel
theorem dX7_better_19 : decode cX7_better 19 = .ok (.iload_n 3, 1) := by decide +kernel
theorem dX7_better_20 : decode cX7_better 20 = .ok (.iconst 1, 1) := by decide +kernel
theorem dX7_better_21 : decode cX7_better 21 = .ok (.if_icmp .gt 43, 3) := by decide +kernel
theorem dX7_better_24 : decode cX7_better 24 = .ok (.aload_n 0, 1) := by decide +kernel
theorem dX7_better_25 : decode cX7_better 25 = .ok (.aload_n 0, 1) := by decide +kernel
theorem dX7_better_26 : decode cX7_better 26 = .ok (.getfield 10, 3) := by decide +kernel
theorem dX7_better_29 : decode cX7_better 29 = .ok (.getfield 70, 3) := by decide +kernel
theorem dX7_better_32 : decode cX7_better 32 = .ok (.iload_n 3, 1) := by decide +kernel
theorem dX7_better_33 : decode cX7_better 33 = .ok (.iconst (-1), 1) := by decide +kernel
theorem dX7_better_34 : decode cX7_better 34 = .ok (.invokevirtual 215, 3) := by decide +kernel
theorem dX7_better_37 : decode cX7_better 37 = .ok (.aload_n 0, 1) := by decide +kernel
theorem dX7_better_38 : decode cX7_better 38 = .ok (.getfield 33, 3) := by decide +kernel
theorem dX7_better_41 : decode cX7_better 41 = .ok (.getfield 193, 3) := by decide +kernel
theorem dX7_better_44 : decode cX7_better 44 = .ok (.iload_n 2, 1) := by decide +kernel
theorem dX7_better_45 : decode cX7_better 45 = .ok (.if_icmp .le 13, 3) := by decide +kernel
theorem dX7_better_48 : decode cX7_better 48 = .ok (.aload_n 0, 1) := by decide +kernel
theorem dX7_better_49 : decode cX7_better 49 = .ok (.getfield 33, 3) := by decide +kernel
theorem dX7_better_52 : decode cX7_better 52 = .ok (.getfield 193, 3) := by decide +kernel
theorem dX7_better_55 : decode cX7_better 55 = .ok (.istore_n 2, 1) := by decide +kernel
theorem dX7_better_56 : decode cX7_better 56 = .ok (.iload_n 3, 1) := by decide +kernel
theorem dX7_better_57 : decode cX7_better 57 = .ok (.istore_n 1, 1) := by decide +kernel
theorem dX7_better_58 : decode cX7_better 58 = .ok (.iinc 3 1, 3) := by decide +kernel
theorem dX7_better_61 : decode cX7_better 61 = .ok (.goto (-42), 3) := by decide +kernel
theorem dX7_better_64 : decode cX7_better 64 = .ok (.iload_n 1, 1) := by decide +kernel
theorem dX7_better_65 : decode cX7_better 65 = .ok (.ifCond .ge 11, 3) := by decide +kernel
theorem dX7_better_68 : decode cX7_better 68 = .ok (.aload_n 0, 1) := by decide +kernel
theorem dX7_better_69 : decode cX7_better 69 = .ok (.iconst 3, 1) := by decide +kernel
theorem dX7_better_70 : decode cX7_better 70 = .ok (.invokevirtual 66, 3) := by decide +kernel
theorem dX7_better_73 : decode cX7_better 73 = .ok (.goto 4, 3) := by decide +kernel
theorem dX7_better_76 : decode cX7_better 76 = .ok (.iload_n 1, 1) := by decide +kernel
theorem dX7_better_77 : decode cX7_better 77 = .ok (.ireturn, 1) := by decide +kernel
theorem dX7_umbrella_0 : decode cX7_umbrella 0 = .ok (.aload_n 0, 1) := by decide +kernel
theorem dX7_umbrella_1 : decode cX7_umbrella 1 = .ok (.invokevirtual 212, 3) := by decide +kernel
theorem dX7_umbrella_4 : decode cX7_umbrella 4 = .ok (.ifCond .eq 9, 3) := by decide +kernel
theorem dX7_umbrella_7 : decode cX7_umbrella 7 = .ok (.aload_n 0, 1) := by decide +kernel
theorem dX7_umbrella_8 : decode cX7_umbrella 8 = .ok (.iconst 4, 1) := by decide +kernel
theorem dX7_umbrella_9 : decode cX7_umbrella 9 = .ok (.invokevirtual 66, 3) := by decide +kernel
theorem dX7_umbrella_12 : decode cX7_umbrella 12 = .ok (.ireturn, 1) := by decide +kernel
theorem dX7_umbrella_13 : decode cX7_umbrella 13 = .ok (.iconst (-1), 1) := by decide +kernel
theorem dX7_umbrella_14 : decode cX7_umbrella 14 = .ok (.istore_n 1, 1) := by decide +kernel
theorem dX7_umbrella_15 : decode cX7_umbrella 15 = .ok (.iconst (-1), 1) := by decide +kernel
theorem dX7_umbrella_16 : decode cX7_umbrella 16 = .ok (.istore_n 2, 1) := by decide +kernel
theorem dX7_umbrella_17 : decode cX7_umbrella 17 = .ok (.aload_n 0, 1) := by decide +kernel
theorem dX7_umbrella_18 : decode cX7_umbrella 18 = .ok (.getfield 26, 3) := by decide +kernel
theorem dX7_umbrella_21 : decode cX7_umbrella 21 = .ok (.aload_n 0, 1) := by decide +kernel
theorem dX7_umbrella_22 : decode cX7_umbrella 22 = .ok (.getfield 10, 3) := by decide +kernel
theorem dX7_umbrella_25 : decode cX7_umbrella 25 = .ok (.getfield 70, 3) := by decide +kernel
theorem dX7_umbrella_28 : decode cX7_umbrella 28 = .ok (.invokevirtual 227, 3) := by decide +kernel
theorem dX7_umbrella_31 : decode cX7_umbrella 31 = .ok (.iconst 0, 1) := by decide +kernel
theorem dX7_umbrella_32 : decode cX7_umbrella 32 = .ok (.istore_n 3, 1) := by decide +kernel
theorem dX7_umbrella_33 : decode cX7_umbrella 33 = .ok (.iload_n 3, 1) := by decide +kernel
theorem dX7_umbrella_34 : decode cX7_umbrella 34 = .ok (.aload_n 0, 1) := by decide +kernel
theorem dX7_umbrella_35 : decode cX7_umbrella 35 = .ok (.getfield 26, 3) := by decide +kernel
theorem dX7_umbrella_38 : decode cX7_umbrella 38 = .ok (.getfield 231, 3) := by decide +kernel
theorem dX7_umbrella_41 : decode cX7_umbrella 41 = .ok (.if_icmp .ge 80, 3) := by decide +kernel
theorem dX7_umbrella_44 : decode cX7_umbrella 44 = .ok (.aload_n 0, 1) := by decide +kernel
theorem dX7_umbrella_45 : decode cX7_umbrella 45 = .ok (.getfield 26, 3) := by decide +kernel
theorem dX7_umbrella_48 : decode cX7_umbrella 48 = .ok (.getfield 84, 3) := by decide +kernel
theorem dX7_umbrella_51 : decode cX7_umbrella 51 = .ok (.iload_n 3, 1) := by decide +kernel
theorem dX7_umbrella_52 : decode cX7_umbrella 52 = .ok (.aaload, 1) := by decide +kernel
theorem dX7_umbrella_53 : decode cX7_umbrella 53 = .ok (.astore 4, 2) := by decide +kernel
theorem dX7_umbrella_55 : decode cX7_umbrella 55 = .ok (.aload 4, 2) := by decide +kernel
theorem dX7_umbrella_57 : decode cX7_umbrella 57 = .ok (.getfield 112, 3) := by decide +kernel
theorem dX7_umbrella_60 : decode cX7_umbrella 60 = .ok (.ifCond .ne 55, 3) := by decide +kernel
theorem dX7_umbrella_63 : decode cX7_umbrella 63 = .ok (.aload 4, 2) := by decide +kernel
theorem dX7_umbrella_65 : decode cX7_umbrella 65 = .ok (.iconst 1, 1) := by decide +kernel
theorem dX7_umbrella_66 : decode cX7_umbrella 66 = .ok (.putfield 112, 3) := by decide +kernel
theorem dX7_umbrella_69 : decode cX7_umbrella 69 = .ok (.aload_n 0, 1) := by decide +kernel
theorem dX7_umbrella_70 : decode cX7_umbrella 70 = .ok (.aload_n 0, 1) := by decide +kernel
theorem dX7_umbrella_71 : decode cX7_umbrella 71 = .ok (.getfield 26, 3) := by decide +kernel
theorem dX7_umbrella_74 : decode cX7_umbrella 74 = .ok (.aload_n 0, 1) := by decide +kernel
theorem dX7_umbrella_75 : decode cX7_umbrella 75 = .ok (.getfield 10, 3) := by decide +kernel
theorem dX7_umbrella_78 : decode cX7_umbrella 78 = .ok (.getfield 135, 3) := by decide +kernel
theorem dX7_umbrella_81 : decode cX7_umbrella 81 = .ok (.getfield 139, 3) := by decide +kernel
theorem dX7_umbrella_84 : decode cX7_umbrella 84 = .ok (.iconst (-1), 1) := by decide +kernel
theorem dX7_umbrella_85 : decode cX7_umbrella 85 = .ok (.invokevirtual 215, 3) := by decide +kernel
theorem dX7_umbrella_88 : decode cX7_umbrella 88 = .ok (.aload 4, 2) := by decide +kernel
theorem dX7_umbrella_90 : decode cX7_umbrella 90 = .ok (.iconst 0, 1) := by decide +kernel
theorem dX7_umbrella_91 : decode cX7_umbrella 91 = .ok (.putfield 112, 3) := by decide +kernel
theorem dX7_umbrella_94 : decode cX7_umbrella 94 = .ok (.aload_n 0, 1) := by decide +kernel
theorem dX7_umbrella_95 : decode cX7_umbrella 95 = .ok (.getfield 33, 3) := by decide +kernel
theorem dX7_umbrella_98 : decode cX7_umbrella 98 = .ok (.getfield 193, 3) := by decide +kernel
theorem dX7_umbrella_101 : decode cX7_umbrella 101 = .ok (.iload_n 2, 1) := by decide +kernel
theorem dX7_umbrella_102 : decode cX7_umbrella 102 = .ok (.if_icmp .le 13, 3) := by decide +kernel
theorem dX7_umbrella_105 : decode cX7_umbrella 105 = .ok (.aload_n 0, 1) := by decide +kernel
theorem dX7_umbrella_106 : decode cX7_umbrella 106 = .ok (.getfield 33, 3) := by decide +kernel
theorem dX7_umbrella_109 : decode cX7_umbrella 109 = .ok (.getfield 193, 3) := by decide +kernel
theorem dX7_umbrella_112 : decode cX7_umbrella 112 = .ok (.istore_n 2, 1) := by decide +kernel
theorem dX7_umbrella_113 : decode cX7_umbrella 113 = .ok (.iload_n 3, 1) := by decide +kernel
theorem dX7_umbrella_114 : decode cX7_umbrella 114 = .ok (.istore_n 1, 1) := by decide +kernel
theorem dX7_umbrella_115 : decode cX7_umbrella 115 = .ok (.iinc 3 1, 3) := by decide +kernel
theorem dX7_umbrella_118 : decode cX7_umbrella 118 = .ok (.goto (-85), 3) := by decide +kernel
theorem dX7_umbrella_121 : decode cX7_umbrella 121 = .ok (.iload_n 1, 1) := by decide +kernel
theorem dX7_umbrella_122 : decode cX7_umbrella 122 = .ok (.ifCond .ge 11, 3) := by decide +kernel
theorem dX7_umbrella_125 : decode cX7_umbrella 125 = .ok (.aload_n 0, 1) := by decide +kernel
theorem dX7_umbrella_126 : decode cX7_umbrella 126 = .ok (.iconst 3, 1) := by decide +kernel
theorem dX7_umbrella_127 : decode cX7_umbrella 127 = .ok (.invokevirtual 66, 3) := by decide +kernel
theorem dX7_umbrella_130 : decode cX7_umbrella 130 = .ok (.goto 4, 3) := by decide +kernel
theorem dX7_umbrella_133 : decode cX7_umbrella 133 = .ok (.iload_n 1, 1) := by decide +kernel
theorem dX7_umbrella_134 : decode cX7_umbrella 134 = .ok (.ireturn, 1) := by decide +kernel
theorem dX7_shade_0 : decode cX7_shade 0 = .ok (.aload_n 0, 1) := by decide +kernel
theorem dX7_shade_1 : decode cX7_shade 1 = .ok (.invokevirtual 212, 3) := by decide +kernel
theorem dX7_shade_4 : decode cX7_shade 4 = .ok (.ifCond .eq 9, 3) := by decide +kernel
theorem dX7_shade_7 : decode cX7_shade 7 = .ok (.aload_n 0, 1) := by decide +kernel
theorem dX7_shade_8 : decode cX7_shade 8 = .ok (.iconst 4, 1) := by decide +kernel
theorem dX7_shade_9 : decode cX7_shade 9 = .ok (.invokevirtual 66, 3) := by decide +kernel
theorem dX7_shade_12 : decode cX7_shade 12 = .ok (.ireturn, 1) := by decide +kernel
theorem dX7_shade_13 : decode cX7_shade 13 = .ok (.iconst (-1), 1) := by decide +kernel
theorem dX7_shade_14 : decode cX7_shade 14 = .ok (.istore_n 1, 1) := by decide +kernel
theorem dX7_shade_15 : decode cX7_shade 15 = .ok (.iconst (-1), 1) := by decide +kernel
theorem dX7_shade_16 : decode cX7_shade 16 = .ok (.istore_n 2, 1) := by decide +kernel
theorem dX7_shade_17 : decode cX7_shade 17 = .ok (.aload_n 0, 1) := by decide +kernel
theorem dX7_shade_18 : decode cX7_shade 18 = .ok (.getfield 26, 3) := by decide +kernel
theorem dX7_shade_21 : decode cX7_shade 21 = .ok (.aload_n 0, 1) := by decide +kernel
theorem dX7_shade_22 : decode cX7_shade 22 = .ok (.getfield 10, 3) := by decide +kernel
theorem dX7_shade_25 : decode cX7_shade 25 = .ok (.getfield 70, 3) := by decide +kernel
theorem dX7_shade_28 : decode cX7_shade 28 = .ok (.invokevirtual 227, 3) := by decide +kernel
theorem dX7_shade_31 : decode cX7_shade 31 = .ok (.iconst 0, 1) := by decide +kernel
theorem dX7_shade_32 : decode cX7_shade 32 = .ok (.istore_n 3, 1) := by decide +kernel
theorem dX7_shade_33 : decode cX7_shade 33 = .ok (.iload_n 3, 1) := by decide +kernel
theorem dX7_shade_34 : decode cX7_shade 34 = .ok (.aload_n 0, 1) := by decide +kernel
theorem dX7_shade_35 : decode cX7_shade 35 = .ok (.getfield 26, 3) := by decide +kernel
theorem dX7_shade_38 : decode cX7_shade 38 = .ok (.getfield 231, 3) := by decide +kernel
theorem dX7_shade_41 : decode cX7_shade 41 = .ok (.if_icmp .ge 80, 3) := by decide +kernel
theorem dX7_shade_44 : decode cX7_shade 44 = .ok (.aload_n 0, 1) := by decide +kernel
theorem dX7_shade_45 : decode cX7_shade 45 = .ok (.getfield 26, 3) := by decide +kernel
theorem dX7_shade_48 : decode cX7_shade 48 = .ok (.getfield 84, 3) := by decide +kernel
theorem dX7_shade_51 : decode cX7_shade 51 = .ok (.iload_n 3, 1) := by decide +kernel
theorem dX7_shade_52 : decode cX7_shade 52 = .ok (.aaload, 1) := by decide +kernel
theorem dX7_shade_53 : decode cX7_shade 53 = .ok (.astore 4, 2) := by decide +kernel
theorem dX7_shade_55 : decode cX7_shade 55 = .ok (.aload 4, 2) := by decide +kernel
theorem dX7_shade_57 : decode cX7_shade 57 = .ok (.getfield 88, 3) := by decide +kernel
theorem dX7_shade_60 : decode cX7_shade 60 = .ok (.istore 5, 2) := by decide +kernel
theorem dX7_shade_62 : decode cX7_shade 62 = .ok (.aload 4, 2) := by decide +kernel
theorem dX7_shade_64 : decode cX7_shade 64 = .ok (.iconst 1, 1) := by decide +kernel
theorem dX7_shade_65 : decode cX7_shade 65 = .ok (.putfield 88, 3) := by decide +kernel
theorem dX7_shade_68 : decode cX7_shade 68 = .ok (.aload_n 0, 1) := by decide +kernel
theorem dX7_shade_69 : decode cX7_shade 69 = .ok (.aload_n 0, 1) := by decide +kernel
theorem dX7_shade_70 : decode cX7_shade 70 = .ok (.getfield 26, 3) := by decide +kernel
theorem dX7_shade_73 : decode cX7_shade 73 = .ok (.aload_n 0, 1) := by decide +kernel
theorem dX7_shade_74 : decode cX7_shade 74 = .ok (.getfield 10, 3) := by decide +kernel
theorem dX7_shade_77 : decode cX7_shade 77 = .ok (.getfield 135, 3) := by decide +kernel
theorem dX7_shade_80 : decode cX7_shade 80 = .ok (.getfield 139, 3) := by decide +kernel
theorem dX7_shade_83 : decode cX7_shade 83 = .ok (.iconst (-1), 1) := by decide +kernel
theorem dX7_shade_84 : decode cX7_shade 84 = .ok (.invokevirtual 215, 3) := by decide +kernel
theorem dX7_shade_87 : decode cX7_shade 87 = .ok (.aload 4, 2) := by decide +kernel
theorem dX7_shade_89 : decode cX7_shade 89 = .ok (.iload 5, 2) := by decide +kernel
theorem dX7_shade_91 : decode cX7_shade 91 = .ok (.putfield 88, 3) := by decide +kernel
theorem dX7_shade_94 : decode cX7_shade 94 = .ok (.aload_n 0, 1) := by decide +kernel
theorem dX7_shade_95 : decode cX7_shade 95 = .ok (.getfield 33, 3) := by decide +kernel
theorem dX7_shade_98 : decode cX7_shade 98 = .ok (.getfield 193, 3) := by decide +kernel
theorem dX7_shade_101 : decode cX7_shade 101 = .ok (.iload_n 2, 1) := by decide +kernel
theorem dX7_shade_102 : decode cX7_shade 102 = .ok (.if_icmp .le 13, 3) := by decide +kernel
theorem dX7_shade_105 : decode cX7_shade 105 = .ok (.aload_n 0, 1) := by decide +kernel
theorem dX7_shade_106 : decode cX7_shade 106 = .ok (.getfield 33, 3) := by decide +kernel
theorem dX7_shade_109 : decode cX7_shade 109 = .ok (.getfield 193, 3) := by decide +kernel
theorem dX7_shade_112 : decode cX7_shade 112 = .ok (.istore_n 2, 1) := by decide +kernel
theorem dX7_shade_113 : decode cX7_shade 113 = .ok (.iload_n 3, 1) := by decide +kernel
theorem dX7_shade_114 : decode cX7_shade 114 = .ok (.istore_n 1, 1) := by decide +kernel
theorem dX7_shade_115 : decode cX7_shade 115 = .ok (.iinc 3 1, 3) := by decide +kernel
theorem dX7_shade_118 : decode cX7_shade 118 = .ok (.goto (-85), 3) := by decide +kernel
theorem dX7_shade_121 : decode cX7_shade 121 = .ok (.iload_n 1, 1) := by decide +kernel
theorem dX7_shade_122 : decode cX7_shade 122 = .ok (.ifCond .ge 11, 3) := by decide +kernel
theorem dX7_shade_125 : decode cX7_shade 125 = .ok (.aload_n 0, 1) := by decide +kernel
theorem dX7_shade_126 : decode cX7_shade 126 = .ok (.iconst 3, 1) := by decide +kernel
theorem dX7_shade_127 : decode cX7_shade 127 = .ok (.invokevirtual 66, 3) := by decide +kernel
theorem dX7_shade_130 : decode cX7_shade 130 = .ok (.goto 4, 3) := by decide +kernel
theorem dX7_shade_133 : decode cX7_shade 133 = .ok (.iload_n 1, 1) := by decide +kernel
theorem dX7_shade_134 : decode cX7_shade 134 = .ok (.ireturn, 1) := by decide +kernel
theorem dX7_needed_0 : decode cX7_needed 0 = .ok (.aload_n 0, 1) := by decide +kernel
theorem dX7_needed_1 : decode cX7_needed 1 = .ok (.invokevirtual 212, 3) := by decide +kernel
theorem dX7_needed_4 : decode cX7_needed 4 = .ok (.ifCond .eq 9, 3) := by decide +kernel
theorem dX7_needed_7 : decode cX7_needed 7 = .ok (.aload_n 0, 1) := by decide +kernel
theorem dX7_needed_8 : decode cX7_needed 8 = .ok (.iconst 4, 1) := by decide +kernel
theorem dX7_needed_9 : decode cX7_needed 9 = .ok (.invokevirtual 66, 3) := by decide +kernel
theorem dX7_needed_12 : decode cX7_needed 12 = .ok (.ireturn, 1) := by decide +kernel
theorem dX7_needed_13 : decode cX7_needed 13 = .ok (.aload_n 0, 1) := by decide +kernel
theorem dX7_needed_14 : decode cX7_needed 14 = .ok (.aload_n 0, 1) := by decide +kernel
theorem dX7_needed_15 : decode cX7_needed 15 = .ok (.getfield 10, 3) := by decide +kernel
theorem dX7_needed_18 : decode cX7_needed 18 = .ok (.getfield 70, 3) := by decide +kernel
theorem dX7_needed_21 : decode cX7_needed 21 = .ok (.aload_n 0, 1) := by decide +kernel
theorem dX7_needed_22 : decode cX7_needed 22 = .ok (.getfield 10, 3) := by decide +kernel
theorem dX7_needed_25 : decode cX7_needed 25 = .ok (.getfield 135, 3) := by decide +kernel
theorem dX7_needed_28 : decode cX7_needed 28 = .ok (.getfield 139, 3) := by decide +kernel
theorem dX7_needed_31 : decode cX7_needed 31 = .ok (.iconst (-1), 1) := by decide +kernel
theorem dX7_needed_32 : decode cX7_needed 32 = .ok (.invokevirtual 215, 3) := by decide +kernel
theorem dX7_needed_35 : decode cX7_needed 35 = .ok (.aload_n 0, 1) := by decide +kernel
theorem dX7_needed_36 : decode cX7_needed 36 = .ok (.getfield 33, 3) := by decide +kernel
theorem dX7_needed_39 : decode cX7_needed 39 = .ok (.getfield 209, 3) := by decide +kernel
theorem dX7_needed_42 : decode cX7_needed 42 = .ok (.ifCond .ne 9, 3) := by decide +kernel
theorem dX7_needed_45 : decode cX7_needed 45 = .ok (.aload_n 0, 1) := by decide +kernel
theorem dX7_needed_46 : decode cX7_needed 46 = .ok (.iconst 3, 1) := by decide +kernel
theorem dX7_needed_47 : decode cX7_needed 47 = .ok (.invokevirtual 66, 3) := by decide +kernel
theorem dX7_needed_50 : decode cX7_needed 50 = .ok (.ireturn, 1) := by decide +kernel
theorem dX7_needed_51 : decode cX7_needed 51 = .ok (.iconst 0, 1) := by decide +kernel
theorem dX7_needed_52 : decode cX7_needed 52 = .ok (.istore_n 1, 1) := by decide +kernel
theorem dX7_needed_53 : decode cX7_needed 53 = .ok (.iconst 0, 1) := by decide +kernel
theorem dX7_needed_54 : decode cX7_needed 54 = .ok (.istore_n 2, 1) := by decide +kernel
theorem dX7_needed_55 : decode cX7_needed 55 = .ok (.iload_n 2, 1) := by decide +kernel
theorem dX7_needed_56 : decode cX7_needed 56 = .ok (.aload_n 0, 1) := by decide +kernel
theorem dX7_needed_57 : decode cX7_needed 57 = .ok (.getfield 10, 3) := by decide +kernel
theorem dX7_needed_60 : decode cX7_needed 60 = .ok (.getfield 70, 3) := by decide +kernel
theorem dX7_needed_63 : decode cX7_needed 63 = .ok (.getfield 231, 3) := by decide +kernel
theorem dX7_needed_66 : decode cX7_needed 66 = .ok (.if_icmp .ge 47, 3) := by decide +kernel
theorem dX7_needed_69 : decode cX7_needed 69 = .ok (.aload_n 0, 1) := by decide +kernel
theorem dX7_needed_70 : decode cX7_needed 70 = .ok (.aload_n 0, 1) := by decide +kernel
theorem dX7_needed_71 : decode cX7_needed 71 = .ok (.getfield 10, 3) := by decide +kernel
theorem dX7_needed_74 : decode cX7_needed 74 = .ok (.getfield 70, 3) := by decide +kernel
theorem dX7_needed_77 : decode cX7_needed 77 = .ok (.aload_n 0, 1) := by decide +kernel
theorem dX7_needed_78 : decode cX7_needed 78 = .ok (.getfield 10, 3) := by decide +kernel
theorem dX7_needed_81 : decode cX7_needed 81 = .ok (.getfield 135, 3) := by decide +kernel
theorem dX7_needed_84 : decode cX7_needed 84 = .ok (.getfield 139, 3) := by decide +kernel
theorem dX7_needed_87 : decode cX7_needed 87 = .ok (.iload_n 2, 1) := by decide +kernel
theorem dX7_needed_88 : decode cX7_needed 88 = .ok (.invokevirtual 215, 3) := by decide +kernel
theorem dX7_needed_91 : decode cX7_needed 91 = .ok (.aload_n 0, 1) := by decide +kernel
theorem dX7_needed_92 : decode cX7_needed 92 = .ok (.getfield 33, 3) := by decide +kernel
theorem dX7_needed_95 : decode cX7_needed 95 = .ok (.getfield 209, 3) := by decide +kernel
theorem dX7_needed_98 : decode cX7_needed 98 = .ok (.ifCond .ne 9, 3) := by decide +kernel
theorem dX7_needed_101 : decode cX7_needed 101 = .ok (.iload_n 1, 1) := by decide +kernel
theorem dX7_needed_102 : decode cX7_needed 102 = .ok (.iconst 1, 1) := by decide +kernel
theorem dX7_needed_103 : decode cX7_needed 103 = .ok (.iload_n 2, 1) := by decide +kernel
theorem dX7_needed_104 : decode cX7_needed 104 = .ok (.ishl, 1) := by decide +kernel
theorem dX7_needed_105 : decode cX7_needed 105 = .ok (.ior, 1) := by decide +kernel
theorem dX7_needed_106 : decode cX7_needed 106 = .ok (.istore_n 1, 1) := by decide +kernel
theorem dX7_needed_107 : decode cX7_needed 107 = .ok (.iinc 2 1, 3) := by decide +kernel
theorem dX7_needed_110 : decode cX7_needed 110 = .ok (.goto (-55), 3) := by decide +kernel
theorem dX7_needed_113 : decode cX7_needed 113 = .ok (.iload_n 1, 1) := by decide +kernel
theorem dX7_needed_114 : decode cX7_needed 114 = .ok (.ireturn, 1) := by decide +kernel
theorem dX7_kindFor_0 : decode cX7_kindFor 0 = .ok (.aload_n 0, 1) := by decide +kernel
theorem dX7_kindFor_1 : decode cX7_kindFor 1 = .ok (.getfield 10, 3) := by decide +kernel
theorem dX7_kindFor_4 : decode cX7_kindFor 4 = .ok (.getfield 70, 3) := by decide +kernel
theorem dX7_kindFor_7 : decode cX7_kindFor 7 = .ok (.iload_n 1, 1) := by decide +kernel
theorem dX7_kindFor_8 : decode cX7_kindFor 8 = .ok (.invokevirtual 81, 3) := by decide +kernel
theorem dX7_kindFor_11 : decode cX7_kindFor 11 = .ok (.ifCond .ne 9, 3) := by decide +kernel
theorem dX7_kindFor_14 : decode cX7_kindFor 14 = .ok (.aload_n 0, 1) := by decide +kernel
theorem dX7_kindFor_15 : decode cX7_kindFor 15 = .ok (.iconst 0, 1) := by decide +kernel
theorem dX7_kindFor_16 : decode cX7_kindFor 16 = .ok (.invokevirtual 66, 3) := by decide +kernel
theorem dX7_kindFor_19 : decode cX7_kindFor 19 = .ok (.ireturn, 1) := by decide +kernel
theorem dX7_kindFor_20 : decode cX7_kindFor 20 = .ok (.aload_n 0, 1) := by decide +kernel
theorem dX7_kindFor_21 : decode cX7_kindFor 21 = .ok (.getfield 26, 3) := by decide +kernel
theorem dX7_kindFor_24 : decode cX7_kindFor 24 = .ok (.aload_n 0, 1) := by decide +kernel
theorem dX7_kindFor_25 : decode cX7_kindFor 25 = .ok (.getfield 10, 3) := by decide +kernel
theorem dX7_kindFor_28 : decode cX7_kindFor 28 = .ok (.getfield 70, 3) := by decide +kernel
theorem dX7_kindFor_31 : decode cX7_kindFor 31 = .ok (.invokevirtual 227, 3) := by decide +kernel
theorem dX7_kindFor_34 : decode cX7_kindFor 34 = .ok (.iconst 0, 1) := by decide +kernel
theorem dX7_kindFor_35 : decode cX7_kindFor 35 = .ok (.istore_n 2, 1) := by decide +kernel
theorem dX7_kindFor_36 : decode cX7_kindFor 36 = .ok (.iconst 0, 1) := by decide +kernel
theorem dX7_kindFor_37 : decode cX7_kindFor 37 = .ok (.istore_n 3, 1) := by decide +kernel
theorem dX7_kindFor_38 : decode cX7_kindFor 38 = .ok (.iconst 0, 1) := by decide +kernel
theorem dX7_kindFor_39 : decode cX7_kindFor 39 = .ok (.istore 4, 2) := by decide +kernel
theorem dX7_kindFor_41 : decode cX7_kindFor 41 = .ok (.iload 4, 2) := by decide +kernel
theorem dX7_kindFor_43 : decode cX7_kindFor 43 = .ok (.bipush 7, 2) := by decide +kernel
theorem dX7_kindFor_45 : decode cX7_kindFor 45 = .ok (.if_icmp .ge 61, 3) := by decide +kernel
theorem dX7_kindFor_48 : decode cX7_kindFor 48 = .ok (.aload_n 0, 1) := by decide +kernel
theorem dX7_kindFor_49 : decode cX7_kindFor 49 = .ok (.getfield 26, 3) := by decide +kernel
theorem dX7_kindFor_52 : decode cX7_kindFor 52 = .ok (.getfield 84, 3) := by decide +kernel
theorem dX7_kindFor_55 : decode cX7_kindFor 55 = .ok (.iload_n 1, 1) := by decide +kernel
theorem dX7_kindFor_56 : decode cX7_kindFor 56 = .ok (.aaload, 1) := by decide +kernel
theorem dX7_kindFor_57 : decode cX7_kindFor 57 = .ok (.iload 4, 2) := by decide +kernel
theorem dX7_kindFor_59 : decode cX7_kindFor 59 = .ok (.putfield 88, 3) := by decide +kernel
theorem dX7_kindFor_62 : decode cX7_kindFor 62 = .ok (.aload_n 0, 1) := by decide +kernel
theorem dX7_kindFor_63 : decode cX7_kindFor 63 = .ok (.aload_n 0, 1) := by decide +kernel
theorem dX7_kindFor_64 : decode cX7_kindFor 64 = .ok (.getfield 26, 3) := by decide +kernel
theorem dX7_kindFor_67 : decode cX7_kindFor 67 = .ok (.iload_n 1, 1) := by decide +kernel
theorem dX7_kindFor_68 : decode cX7_kindFor 68 = .ok (.aload_n 0, 1) := by decide +kernel
theorem dX7_kindFor_69 : decode cX7_kindFor 69 = .ok (.getfield 10, 3) := by decide +kernel
theorem dX7_kindFor_72 : decode cX7_kindFor 72 = .ok (.getfield 135, 3) := by decide +kernel
theorem dX7_kindFor_75 : decode cX7_kindFor 75 = .ok (.getfield 163, 3) := by decide +kernel
theorem dX7_kindFor_78 : decode cX7_kindFor 78 = .ok (.invokevirtual 186, 3) := by decide +kernel
theorem dX7_kindFor_81 : decode cX7_kindFor 81 = .ok (.istore 5, 2) := by decide +kernel
theorem dX7_kindFor_83 : decode cX7_kindFor 83 = .ok (.iload 4, 2) := by decide +kernel
theorem dX7_kindFor_85 : decode cX7_kindFor 85 = .ok (.ifCond .eq 9, 3) := by decide +kernel
theorem dX7_kindFor_88 : decode cX7_kindFor 88 = .ok (.iload 5, 2) := by decide +kernel
theorem dX7_kindFor_90 : decode cX7_kindFor 90 = .ok (.iload_n 3, 1) := by decide +kernel
theorem dX7_kindFor_91 : decode cX7_kindFor 91 = .ok (.if_icmp .ge 9, 3) := by decide +kernel
theorem dX7_kindFor_94 : decode cX7_kindFor 94 = .ok (.iload 5, 2) := by decide +kernel
theorem dX7_kindFor_96 : decode cX7_kindFor 96 = .ok (.istore_n 3, 1) := by decide +kernel
theorem dX7_kindFor_97 : decode cX7_kindFor 97 = .ok (.iload 4, 2) := by decide +kernel
theorem dX7_kindFor_99 : decode cX7_kindFor 99 = .ok (.istore_n 2, 1) := by decide +kernel
theorem dX7_kindFor_100 : decode cX7_kindFor 100 = .ok (.iinc 4 1, 3) := by decide +kernel
theorem dX7_kindFor_103 : decode cX7_kindFor 103 = .ok (.goto (-62), 3) := by decide +kernel
theorem dX7_kindFor_106 : decode cX7_kindFor 106 = .ok (.iload_n 2, 1) := by decide +kernel
theorem dX7_kindFor_107 : decode cX7_kindFor 107 = .ok (.ireturn, 1) := by decide +kernel
theorem dX7_reach_0 : decode cX7_reach 0 = .ok (.iconst 1, 1) := by decide +kernel
theorem dX7_reach_1 : decode cX7_reach 1 = .ok (.aload_n 0, 1) := by decide +kernel
theorem dX7_reach_2 : decode cX7_reach 2 = .ok (.getfield 10, 3) := by decide +kernel
theorem dX7_reach_5 : decode cX7_reach 5 = .ok (.getfield 135, 3) := by decide +kernel
theorem dX7_reach_8 : decode cX7_reach 8 = .ok (.getfield 160, 3) := by decide +kernel
theorem dX7_reach_11 : decode cX7_reach 11 = .ok (.ishl, 1) := by decide +kernel
theorem dX7_reach_12 : decode cX7_reach 12 = .ok (.istore_n 1, 1) := by decide +kernel
theorem dX7_reach_13 : decode cX7_reach 13 = .ok (.iconst 1, 1) := by decide +kernel
theorem dX7_reach_14 : decode cX7_reach 14 = .ok (.istore_n 2, 1) := by decide +kernel
theorem dX7_reach_15 : decode cX7_reach 15 = .ok (.iload_n 2, 1) := by decide +kernel
theorem dX7_reach_16 : decode cX7_reach 16 = .ok (.bipush 8, 2) := by decide +kernel
theorem dX7_reach_18 : decode cX7_reach 18 = .ok (.if_icmp .ge 53, 3) := by decide +kernel
theorem dX7_reach_21 : decode cX7_reach 21 = .ok (.iload_n 1, 1) := by decide +kernel
theorem dX7_reach_22 : decode cX7_reach 22 = .ok (.istore_n 3, 1) := by decide +kernel
theorem dX7_reach_23 : decode cX7_reach 23 = .ok (.iconst 0, 1) := by decide +kernel
theorem dX7_reach_24 : decode cX7_reach 24 = .ok (.istore 4, 2) := by decide +kernel
theorem dX7_reach_26 : decode cX7_reach 26 = .ok (.iload 4, 2) := by decide +kernel
theorem dX7_reach_28 : decode cX7_reach 28 = .ok (.bipush 8, 2) := by decide +kernel
theorem dX7_reach_30 : decode cX7_reach 30 = .ok (.if_icmp .ge 33, 3) := by decide +kernel
theorem dX7_reach_33 : decode cX7_reach 33 = .ok (.iload_n 1, 1) := by decide +kernel
theorem dX7_reach_34 : decode cX7_reach 34 = .ok (.iload 4, 2) := by decide +kernel
theorem dX7_reach_36 : decode cX7_reach 36 = .ok (.invokestatic 234, 3) := by decide +kernel
theorem dX7_reach_39 : decode cX7_reach 39 = .ok (.ifCond .eq 18, 3) := by decide +kernel
theorem dX7_reach_42 : decode cX7_reach 42 = .ok (.iload_n 3, 1) := by decide +kernel
theorem dX7_reach_43 : decode cX7_reach 43 = .ok (.aload_n 0, 1) := by decide +kernel
theorem dX7_reach_44 : decode cX7_reach 44 = .ok (.getfield 10, 3) := by decide +kernel
theorem dX7_reach_47 : decode cX7_reach 47 = .ok (.getfield 70, 3) := by decide +kernel
theorem dX7_reach_50 : decode cX7_reach 50 = .ok (.iload 4, 2) := by decide +kernel
theorem dX7_reach_52 : decode cX7_reach 52 = .ok (.invokevirtual 148, 3) := by decide +kernel
theorem dX7_reach_55 : decode cX7_reach 55 = .ok (.ior, 1) := by decide +kernel
theorem dX7_reach_56 : decode cX7_reach 56 = .ok (.istore_n 3, 1) := by decide +kernel
theorem dX7_reach_57 : decode cX7_reach 57 = .ok (.iinc 4 1, 3) := by decide +kernel
theorem dX7_reach_60 : decode cX7_reach 60 = .ok (.goto (-34), 3) := by decide +kernel
theorem dX7_reach_63 : decode cX7_reach 63 = .ok (.iload_n 3, 1) := by decide +kernel
theorem dX7_reach_64 : decode cX7_reach 64 = .ok (.istore_n 1, 1) := by decide +kernel
theorem dX7_reach_65 : decode cX7_reach 65 = .ok (.iinc 2 1, 3) := by decide +kernel
theorem dX7_reach_68 : decode cX7_reach 68 = .ok (.goto (-53), 3) := by decide +kernel
theorem dX7_reach_71 : decode cX7_reach 71 = .ok (.iload_n 1, 1) := by decide +kernel
theorem dX7_reach_72 : decode cX7_reach 72 = .ok (.ireturn, 1) := by decide +kernel
theorem dX7_sky_0 : decode cX7_sky 0 = .ok (.iload_n 1, 1) := by decide +kernel
theorem dX7_sky_1 : decode cX7_sky 1 = .ok (.iconst 1, 1) := by decide +kernel
theorem dX7_sky_2 : decode cX7_sky 2 = .ok (.bipush 12, 2) := by decide +kernel
theorem dX7_sky_4 : decode cX7_sky 4 = .ok (.invokestatic 62, 3) := by decide +kernel
theorem dX7_sky_7 : decode cX7_sky 7 = .ok (.ifCond .ne 9, 3) := by decide +kernel
theorem dX7_sky_10 : decode cX7_sky 10 = .ok (.aload_n 0, 1) := by decide +kernel
theorem dX7_sky_11 : decode cX7_sky 11 = .ok (.iconst 0, 1) := by decide +kernel
theorem dX7_sky_12 : decode cX7_sky 12 = .ok (.invokevirtual 66, 3) := by decide +kernel
theorem dX7_sky_15 : decode cX7_sky 15 = .ok (.ireturn, 1) := by decide +kernel
theorem dX7_sky_16 : decode cX7_sky 16 = .ok (.iconst 0, 1) := by decide +kernel
theorem dX7_sky_17 : decode cX7_sky 17 = .ok (.istore_n 2, 1) := by decide +kernel
theorem dX7_sky_18 : decode cX7_sky 18 = .ok (.iload_n 2, 1) := by decide +kernel
theorem dX7_sky_19 : decode cX7_sky 19 = .ok (.iload_n 1, 1) := by decide +kernel
theorem dX7_sky_20 : decode cX7_sky 20 = .ok (.if_icmp .ge 70, 3) := by decide +kernel
theorem dX7_sky_23 : decode cX7_sky 23 = .ok (.aload_n 0, 1) := by decide +kernel
theorem dX7_sky_24 : decode cX7_sky 24 = .ok (.getfield 10, 3) := by decide +kernel
theorem dX7_sky_27 : decode cX7_sky 27 = .ok (.invokevirtual 238, 3) := by decide +kernel
theorem dX7_sky_30 : decode cX7_sky 30 = .ok (.bipush 12, 2) := by decide +kernel
theorem dX7_sky_32 : decode cX7_sky 32 = .ok (.irem, 1) := by decide +kernel
theorem dX7_sky_33 : decode cX7_sky 33 = .ok (.istore_n 3, 1) := by decide +kernel
theorem dX7_sky_34 : decode cX7_sky 34 = .ok (.aload_n 0, 1) := by decide +kernel
theorem dX7_sky_35 : decode cX7_sky 35 = .ok (.getfield 10, 3) := by decide +kernel
theorem dX7_sky_38 : decode cX7_sky 38 = .ok (.getfield 70, 3) := by decide +kernel
theorem dX7_sky_41 : decode cX7_sky 41 = .ok (.getfield 129, 3) := by decide +kernel
theorem dX7_sky_44 : decode cX7_sky 44 = .ok (.iload_n 3, 1) := by decide +kernel
theorem dX7_sky_45 : decode cX7_sky 45 = .ok (.aload_n 0, 1) := by decide +kernel
theorem dX7_sky_46 : decode cX7_sky 46 = .ok (.getfield 10, 3) := by decide +kernel
theorem dX7_sky_49 : decode cX7_sky 49 = .ok (.invokevirtual 238, 3) := by decide +kernel
theorem dX7_sky_52 : decode cX7_sky 52 = .ok (.bipush 10, 2) := by decide +kernel
theorem dX7_sky_54 : decode cX7_sky 54 = .ok (.irem, 1) := by decide +kernel
theorem dX7_sky_55 : decode cX7_sky 55 = .ok (.iastore, 1) := by decide +kernel
theorem dX7_sky_56 : decode cX7_sky 56 = .ok (.aload_n 0, 1) := by decide +kernel
theorem dX7_sky_57 : decode cX7_sky 57 = .ok (.getfield 10, 3) := by decide +kernel
theorem dX7_sky_60 : decode cX7_sky 60 = .ok (.getfield 70, 3) := by decide +kernel
theorem dX7_sky_63 : decode cX7_sky 63 = .ok (.getfield 132, 3) := by decide +kernel
theorem dX7_sky_66 : decode cX7_sky 66 = .ok (.iload_n 3, 1) := by decide +kernel
theorem dX7_sky_67 : decode cX7_sky 67 = .ok (.iconst 0, 1) := by decide +kernel
theorem dX7_sky_68 : decode cX7_sky 68 = .ok (.aload_n 0, 1) := by decide +kernel
theorem dX7_sky_69 : decode cX7_sky 69 = .ok (.getfield 10, 3) := by decide +kernel
theorem dX7_sky_72 : decode cX7_sky 72 = .ok (.invokevirtual 238, 3) := by decide +kernel
theorem dX7_sky_75 : decode cX7_sky 75 = .ok (.bipush 10, 2) := by decide +kernel
theorem dX7_sky_77 : decode cX7_sky 77 = .ok (.irem, 1) := by decide +kernel
theorem dX7_sky_78 : decode cX7_sky 78 = .ok (.iconst 5, 1) := by decide +kernel
theorem dX7_sky_79 : decode cX7_sky 79 = .ok (.isub, 1) := by decide +kernel
theorem dX7_sky_80 : decode cX7_sky 80 = .ok (.invokestatic 106, 3) := by decide +kernel
theorem dX7_sky_83 : decode cX7_sky 83 = .ok (.iastore, 1) := by decide +kernel
theorem dX7_sky_84 : decode cX7_sky 84 = .ok (.iinc 2 1, 3) := by decide +kernel
theorem dX7_sky_87 : decode cX7_sky 87 = .ok (.goto (-69), 3) := by decide +kernel
theorem dX7_sky_90 : decode cX7_sky 90 = .ok (.aload_n 0, 1) := by decide +kernel
theorem dX7_sky_91 : decode cX7_sky 91 = .ok (.getfield 10, 3) := by decide +kernel
theorem dX7_sky_94 : decode cX7_sky 94 = .ok (.getfield 70, 3) := by decide +kernel
theorem dX7_sky_97 : decode cX7_sky 97 = .ok (.getfield 132, 3) := by decide +kernel
theorem dX7_sky_100 : decode cX7_sky 100 = .ok (.invokestatic 241, 3) := by decide +kernel
theorem dX7_sky_103 : decode cX7_sky 103 = .ok (.ireturn, 1) := by decide +kernel
theorem dX7_stray_0 : decode cX7_stray 0 = .ok (.iload_n 1, 1) := by decide +kernel
theorem dX7_stray_1 : decode cX7_stray 1 = .ok (.iconst 1, 1) := by decide +kernel
theorem dX7_stray_2 : decode cX7_stray 2 = .ok (.bipush 12, 2) := by decide +kernel
theorem dX7_stray_4 : decode cX7_stray 4 = .ok (.invokestatic 62, 3) := by decide +kernel
theorem dX7_stray_7 : decode cX7_stray 7 = .ok (.ifCond .ne 9, 3) := by decide +kernel
theorem dX7_stray_10 : decode cX7_stray 10 = .ok (.aload_n 0, 1) := by decide +kernel
theorem dX7_stray_11 : decode cX7_stray 11 = .ok (.iconst 0, 1) := by decide +kernel
theorem dX7_stray_12 : decode cX7_stray 12 = .ok (.invokevirtual 66, 3) := by decide +kernel
theorem dX7_stray_15 : decode cX7_stray 15 = .ok (.ireturn, 1) := by decide +kernel
theorem dX7_stray_16 : decode cX7_stray 16 = .ok (.iconst 0, 1) := by decide +kernel
theorem dX7_stray_17 : decode cX7_stray 17 = .ok (.istore_n 2, 1) := by decide +kernel
theorem dX7_stray_18 : decode cX7_stray 18 = .ok (.iload_n 2, 1) := by decide +kernel
theorem dX7_stray_19 : decode cX7_stray 19 = .ok (.iload_n 1, 1) := by decide +kernel
theorem dX7_stray_20 : decode cX7_stray 20 = .ok (.if_icmp .ge 79, 3) := by decide +kernel
theorem dX7_stray_23 : decode cX7_stray 23 = .ok (.aload_n 0, 1) := by decide +kernel
theorem dX7_stray_24 : decode cX7_stray 24 = .ok (.getfield 10, 3) := by decide +kernel
theorem dX7_stray_27 : decode cX7_stray 27 = .ok (.invokevirtual 245, 3) := by decide +kernel
theorem dX7_stray_30 : decode cX7_stray 30 = .ok (.istore_n 3, 1) := by decide +kernel
theorem dX7_stray_31 : decode cX7_stray 31 = .ok (.iload_n 3, 1) := by decide +kernel
theorem dX7_stray_32 : decode cX7_stray 32 = .ok (.ifCond .ge 7, 3) := by decide +kernel
theorem dX7_stray_35 : decode cX7_stray 35 = .ok (.iconst (-1), 1) := by decide +kernel
theorem dX7_stray_36 : decode cX7_stray 36 = .ok (.goto 24, 3) := by decide +kernel
theorem dX7_stray_39 : decode cX7_stray 39 = .ok (.aload_n 0, 1) := by decide +kernel
theorem dX7_stray_40 : decode cX7_stray 40 = .ok (.getfield 10, 3) := by decide +kernel
theorem dX7_stray_43 : decode cX7_stray 43 = .ok (.getfield 70, 3) := by decide +kernel
theorem dX7_stray_46 : decode cX7_stray 46 = .ok (.aload_n 0, 1) := by decide +kernel
theorem dX7_stray_47 : decode cX7_stray 47 = .ok (.getfield 10, 3) := by decide +kernel
theorem dX7_stray_50 : decode cX7_stray 50 = .ok (.getfield 135, 3) := by decide +kernel
theorem dX7_stray_53 : decode cX7_stray 53 = .ok (.getfield 160, 3) := by decide +kernel
theorem dX7_stray_56 : decode cX7_stray 56 = .ok (.iload_n 3, 1) := by decide +kernel
theorem dX7_stray_57 : decode cX7_stray 57 = .ok (.invokevirtual 151, 3) := by decide +kernel
theorem dX7_stray_60 : decode cX7_stray 60 = .ok (.istore 4, 2) := by decide +kernel
theorem dX7_stray_62 : decode cX7_stray 62 = .ok (.iload 4, 2) := by decide +kernel
theorem dX7_stray_64 : decode cX7_stray 64 = .ok (.ifCond .lt 35, 3) := by decide +kernel
theorem dX7_stray_67 : decode cX7_stray 67 = .ok (.aload_n 0, 1) := by decide +kernel
theorem dX7_stray_68 : decode cX7_stray 68 = .ok (.getfield 10, 3) := by decide +kernel
theorem dX7_stray_71 : decode cX7_stray 71 = .ok (.iload 4, 2) := by decide +kernel
theorem dX7_stray_73 : decode cX7_stray 73 = .ok (.invokevirtual 172, 3) := by decide +kernel
theorem dX7_stray_76 : decode cX7_stray 76 = .ok (.ifCond .eq 6, 3) := by decide +kernel
theorem dX7_stray_79 : decode cX7_stray 79 = .ok (.goto 20, 3) := by decide +kernel
theorem dX7_stray_82 : decode cX7_stray 82 = .ok (.aload_n 0, 1) := by decide +kernel
theorem dX7_stray_83 : decode cX7_stray 83 = .ok (.getfield 10, 3) := by decide +kernel
theorem dX7_stray_86 : decode cX7_stray 86 = .ok (.iload 4, 2) := by decide +kernel
theorem dX7_stray_88 : decode cX7_stray 88 = .ok (.iload_n 3, 1) := by decide +kernel
theorem dX7_stray_89 : decode cX7_stray 89 = .ok (.invokevirtual 175, 3) := by decide +kernel
theorem dX7_stray_92 : decode cX7_stray 92 = .ok (.pop, 1) := by decide +kernel
theorem dX7_stray_93 : decode cX7_stray 93 = .ok (.iinc 2 1, 3) := by decide +kernel
theorem dX7_stray_96 : decode cX7_stray 96 = .ok (.goto (-78), 3) := by decide +kernel
theorem dX7_stray_99 : decode cX7_stray 99 = .ok (.aload_n 0, 1) := by decide +kernel
theorem dX7_stray_100 : decode cX7_stray 100 = .ok (.getfield 10, 3) := by decide +kernel
theorem dX7_stray_103 : decode cX7_stray 103 = .ok (.getfield 135, 3) := by decide +kernel
theorem dX7_stray_106 : decode cX7_stray 106 = .ok (.invokevirtual 157, 3) := by decide +kernel
theorem dX7_stray_109 : decode cX7_stray 109 = .ok (.ireturn, 1) := by decide +kernel
theorem dX7_year_0 : decode cX7_year 0 = .ok (.aload_n 0, 1) := by decide +kernel
theorem dX7_year_1 : decode cX7_year 1 = .ok (.getfield 10, 3) := by decide +kernel
theorem dX7_year_4 : decode cX7_year 4 = .ok (.getfield 135, 3) := by decide +kernel
theorem dX7_year_7 : decode cX7_year 7 = .ok (.invokevirtual 248, 3) := by decide +kernel
theorem dX7_year_10 : decode cX7_year 10 = .ok (.aload_n 0, 1) := by decide +kernel
theorem dX7_year_11 : decode cX7_year 11 = .ok (.getfield 10, 3) := by decide +kernel
theorem dX7_year_14 : decode cX7_year 14 = .ok (.getfield 135, 3) := by decide +kernel
theorem dX7_year_17 : decode cX7_year 17 = .ok (.invokevirtual 183, 3) := by decide +kernel
theorem dX7_year_20 : decode cX7_year 20 = .ok (.aload_n 0, 1) := by decide +kernel
theorem dX7_year_21 : decode cX7_year 21 = .ok (.getfield 10, 3) := by decide +kernel
theorem dX7_year_24 : decode cX7_year 24 = .ok (.getfield 135, 3) := by decide +kernel
theorem dX7_year_27 : decode cX7_year 27 = .ok (.invokevirtual 157, 3) := by decide +kernel
theorem dX7_year_30 : decode cX7_year 30 = .ok (.ireturn, 1) := by decide +kernel
theorem dX7_seed_0 : decode cX7_seed 0 = .ok (.aload_n 0, 1) := by decide +kernel
theorem dX7_seed_1 : decode cX7_seed 1 = .ok (.getfield 10, 3) := by decide +kernel
theorem dX7_seed_4 : decode cX7_seed 4 = .ok (.getfield 251, 3) := by decide +kernel
theorem dX7_seed_7 : decode cX7_seed 7 = .ok (.istore_n 2, 1) := by decide +kernel
theorem dX7_seed_8 : decode cX7_seed 8 = .ok (.aload_n 0, 1) := by decide +kernel
theorem dX7_seed_9 : decode cX7_seed 9 = .ok (.getfield 10, 3) := by decide +kernel
theorem dX7_seed_12 : decode cX7_seed 12 = .ok (.iload_n 1, 1) := by decide +kernel
theorem dX7_seed_13 : decode cX7_seed 13 = .ok (.putfield 251, 3) := by decide +kernel
theorem dX7_seed_16 : decode cX7_seed 16 = .ok (.iload_n 2, 1) := by decide +kernel
theorem dX7_seed_17 : decode cX7_seed 17 = .ok (.ireturn, 1) := by decide +kernel
theorem dX7_feed_0 : decode cX7_feed 0 = .ok (.iload_n 2, 1) := by decide +kernel
theorem dX7_feed_1 : decode cX7_feed 1 = .ok (.iconst 1, 1) := by decide +kernel
theorem dX7_feed_2 : decode cX7_feed 2 = .ok (.iconst 4, 1) := by decide +kernel
theorem dX7_feed_3 : decode cX7_feed 3 = .ok (.invokestatic 62, 3) := by decide +kernel
theorem dX7_feed_6 : decode cX7_feed 6 = .ok (.ifCond .ne 9, 3) := by decide +kernel
theorem dX7_feed_9 : decode cX7_feed 9 = .ok (.aload_n 0, 1) := by decide +kernel
theorem dX7_feed_10 : decode cX7_feed 10 = .ok (.iconst 0, 1) := by decide +kernel
theorem dX7_feed_11 : decode cX7_feed 11 = .ok (.invokevirtual 66, 3) := by decide +kernel
theorem dX7_feed_14 : decode cX7_feed 14 = .ok (.ireturn, 1) := by decide +kernel
theorem dX7_feed_15 : decode cX7_feed 15 = .ok (.aload_n 0, 1) := by decide +kernel
theorem dX7_feed_16 : decode cX7_feed 16 = .ok (.getfield 40, 3) := by decide +kernel
theorem dX7_feed_19 : decode cX7_feed 19 = .ok (.getfield 254, 3) := by decide +kernel
theorem dX7_feed_22 : decode cX7_feed 22 = .ok (.iload_n 2, 1) := by decide +kernel
theorem dX7_feed_23 : decode cX7_feed 23 = .ok (.iadd, 1) := by decide +kernel
theorem dX7_feed_24 : decode cX7_feed 24 = .ok (.bipush 120, 2) := by decide +kernel
theorem dX7_feed_26 : decode cX7_feed 26 = .ok (.if_icmp .le 9, 3) := by decide +kernel
theorem dX7_feed_29 : decode cX7_feed 29 = .ok (.aload_n 0, 1) := by decide +kernel
theorem dX7_feed_30 : decode cX7_feed 30 = .ok (.iconst 1, 1) := by decide +kernel
theorem dX7_feed_31 : decode cX7_feed 31 = .ok (.invokevirtual 66, 3) := by decide +kernel
theorem dX7_feed_34 : decode cX7_feed 34 = .ok (.ireturn, 1) := by decide +kernel
theorem dX7_feed_35 : decode cX7_feed 35 = .ok (.iload_n 2, 1) := by decide +kernel
theorem dX7_feed_36 : decode cX7_feed 36 = .ok (.iconst 1, 1) := by decide +kernel
theorem dX7_feed_37 : decode cX7_feed 37 = .ok (.isub, 1) := by decide +kernel
theorem dX7_feed_38 : decode cX7_feed 38 = .ok (.istore_n 3, 1) := by decide +kernel
theorem dX7_feed_39 : decode cX7_feed 39 = .ok (.iload_n 3, 1) := by decide +kernel
theorem dX7_feed_40 : decode cX7_feed 40 = .ok (.ifCond .lt 26, 3) := by decide +kernel
theorem dX7_feed_43 : decode cX7_feed 43 = .ok (.aload_n 0, 1) := by decide +kernel
theorem dX7_feed_44 : decode cX7_feed 44 = .ok (.getfield 40, 3) := by decide +kernel
theorem dX7_feed_47 : decode cX7_feed 47 = .ok (.iload_n 1, 1) := by decide +kernel
theorem dX7_feed_48 : decode cX7_feed 48 = .ok (.bipush 8, 2) := by decide +kernel
theorem dX7_feed_50 : decode cX7_feed 50 = .ok (.iload_n 3, 1) := by decide +kernel
theorem dX7_feed_51 : decode cX7_feed 51 = .ok (.imul, 1) := by decide +kernel
theorem dX7_feed_52 : decode cX7_feed 52 = .ok (.iushr, 1) := by decide +kernel
theorem dX7_feed_53 : decode cX7_feed 53 = .ok (.sipush 255, 3) := by decide +kernel
theorem dX7_feed_56 : decode cX7_feed 56 = .ok (.iand, 1) := by decide +kernel
theorem dX7_feed_57 : decode cX7_feed 57 = .ok (.invokevirtual 255, 3) := by decide +kernel
theorem dX7_feed_60 : decode cX7_feed 60 = .ok (.iinc 3 (-1), 3) := by decide +kernel
theorem dX7_feed_63 : decode cX7_feed 63 = .ok (.goto (-24), 3) := by decide +kernel
theorem dX7_feed_66 : decode cX7_feed 66 = .ok (.aload_n 0, 1) := by decide +kernel
theorem dX7_feed_67 : decode cX7_feed 67 = .ok (.getfield 40, 3) := by decide +kernel
theorem dX7_feed_70 : decode cX7_feed 70 = .ok (.getfield 254, 3) := by decide +kernel
theorem dX7_feed_73 : decode cX7_feed 73 = .ok (.ireturn, 1) := by decide +kernel
theorem dX7_wipe_0 : decode cX7_wipe 0 = .ok (.aload_n 0, 1) := by decide +kernel
theorem dX7_wipe_1 : decode cX7_wipe 1 = .ok (.getfield 40, 3) := by decide +kernel
theorem dX7_wipe_4 : decode cX7_wipe 4 = .ok (.getfield 254, 3) := by decide +kernel
theorem dX7_wipe_7 : decode cX7_wipe 7 = .ok (.istore_n 1, 1) := by decide +kernel
theorem dX7_wipe_8 : decode cX7_wipe 8 = .ok (.aload_n 0, 1) := by decide +kernel
theorem dX7_wipe_9 : decode cX7_wipe 9 = .ok (.getfield 40, 3) := by decide +kernel
theorem dX7_wipe_12 : decode cX7_wipe 12 = .ok (.iconst 0, 1) := by decide +kernel
theorem dX7_wipe_13 : decode cX7_wipe 13 = .ok (.putfield 254, 3) := by decide +kernel
theorem dX7_wipe_16 : decode cX7_wipe 16 = .ok (.iload_n 1, 1) := by decide +kernel
theorem dX7_wipe_17 : decode cX7_wipe 17 = .ok (.ireturn, 1) := by decide +kernel
theorem dX7_text_0 : decode cX7_text 0 = .ok (.aload_n 0, 1) := by decide +kernel
theorem dX7_text_1 : decode cX7_text 1 = .ok (.getfield 40, 3) := by decide +kernel
theorem dX7_text_4 : decode cX7_text 4 = .ok (.getfield 258, 3) := by decide +kernel
theorem dX7_text_7 : decode cX7_text 7 = .ok (.aload_n 0, 1) := by decide +kernel
theorem dX7_text_8 : decode cX7_text 8 = .ok (.getfield 10, 3) := by decide +kernel
theorem dX7_text_11 : decode cX7_text 11 = .ok (.getfield 70, 3) := by decide +kernel
theorem dX7_text_14 : decode cX7_text 14 = .ok (.invokevirtual 227, 3) := by decide +kernel
theorem dX7_text_17 : decode cX7_text 17 = .ok (.aload_n 0, 1) := by decide +kernel
theorem dX7_text_18 : decode cX7_text 18 = .ok (.getfield 40, 3) := by decide +kernel
theorem dX7_text_21 : decode cX7_text 21 = .ok (.aload_n 0, 1) := by decide +kernel
theorem dX7_text_22 : decode cX7_text 22 = .ok (.getfield 10, 3) := by decide +kernel
theorem dX7_text_25 : decode cX7_text 25 = .ok (.getfield 135, 3) := by decide +kernel
theorem dX7_text_28 : decode cX7_text 28 = .ok (.getfield 139, 3) := by decide +kernel
theorem dX7_text_31 : decode cX7_text 31 = .ok (.putfield 259, 3) := by decide +kernel
theorem dX7_text_34 : decode cX7_text 34 = .ok (.aload_n 0, 1) := by decide +kernel
theorem dX7_text_35 : decode cX7_text 35 = .ok (.getfield 40, 3) := by decide +kernel
theorem dX7_text_38 : decode cX7_text 38 = .ok (.invokevirtual 260, 3) := by decide +kernel
theorem dX7_text_41 : decode cX7_text 41 = .ok (.istore_n 1, 1) := by decide +kernel
theorem dX7_text_42 : decode cX7_text 42 = .ok (.aload_n 0, 1) := by decide +kernel
theorem dX7_text_43 : decode cX7_text 43 = .ok (.getfield 40, 3) := by decide +kernel
theorem dX7_text_46 : decode cX7_text 46 = .ok (.iconst 0, 1) := by decide +kernel
theorem dX7_text_47 : decode cX7_text 47 = .ok (.putfield 254, 3) := by decide +kernel
theorem dX7_text_50 : decode cX7_text 50 = .ok (.iload_n 1, 1) := by decide +kernel
theorem dX7_text_51 : decode cX7_text 51 = .ok (.ifCond .lt 37, 3) := by decide +kernel
theorem dX7_text_54 : decode cX7_text 54 = .ok (.aload_n 0, 1) := by decide +kernel
theorem dX7_text_55 : decode cX7_text 55 = .ok (.getfield 10, 3) := by decide +kernel
theorem dX7_text_58 : decode cX7_text 58 = .ok (.getfield 70, 3) := by decide +kernel
theorem dX7_text_61 : decode cX7_text 61 = .ok (.aload_n 0, 1) := by decide +kernel
theorem dX7_text_62 : decode cX7_text 62 = .ok (.getfield 40, 3) := by decide +kernel
theorem dX7_text_65 : decode cX7_text 65 = .ok (.getfield 258, 3) := by decide +kernel
theorem dX7_text_68 : decode cX7_text 68 = .ok (.invokevirtual 227, 3) := by decide +kernel
theorem dX7_text_71 : decode cX7_text 71 = .ok (.aload_n 0, 1) := by decide +kernel
theorem dX7_text_72 : decode cX7_text 72 = .ok (.getfield 10, 3) := by decide +kernel
theorem dX7_text_75 : decode cX7_text 75 = .ok (.getfield 135, 3) := by decide +kernel
theorem dX7_text_78 : decode cX7_text 78 = .ok (.aload_n 0, 1) := by decide +kernel
theorem dX7_text_79 : decode cX7_text 79 = .ok (.getfield 40, 3) := by decide +kernel
theorem dX7_text_82 : decode cX7_text 82 = .ok (.getfield 259, 3) := by decide +kernel
theorem dX7_text_85 : decode cX7_text 85 = .ok (.putfield 139, 3) := by decide +kernel
theorem dX7_text_88 : decode cX7_text 88 = .ok (.iload_n 1, 1) := by decide +kernel
theorem dX7_text_89 : decode cX7_text 89 = .ok (.ireturn, 1) := by decide +kernel
theorem dX7_hold_0 : decode cX7_hold 0 = .ok (.iload_n 1, 1) := by decide +kernel
theorem dX7_hold_1 : decode cX7_hold 1 = .ok (.iconst 0, 1) := by decide +kernel
theorem dX7_hold_2 : decode cX7_hold 2 = .ok (.bipush 9, 2) := by decide +kernel
theorem dX7_hold_4 : decode cX7_hold 4 = .ok (.invokestatic 62, 3) := by decide +kernel
theorem dX7_hold_7 : decode cX7_hold 7 = .ok (.ifCond .eq 22, 3) := by decide +kernel
theorem dX7_hold_10 : decode cX7_hold 10 = .ok (.iload_n 2, 1) := by decide +kernel
theorem dX7_hold_11 : decode cX7_hold 11 = .ok (.iconst (-1), 1) := by decide +kernel
theorem dX7_hold_12 : decode cX7_hold 12 = .ok (.if_icmp .eq 23, 3) := by decide +kernel
theorem dX7_hold_15 : decode cX7_hold 15 = .ok (.aload_n 0, 1) := by decide +kernel
theorem dX7_hold_16 : decode cX7_hold 16 = .ok (.getfield 10, 3) := by decide +kernel
theorem dX7_hold_19 : decode cX7_hold 19 = .ok (.getfield 70, 3) := by decide +kernel
theorem dX7_hold_22 : decode cX7_hold 22 = .ok (.iload_n 2, 1) := by decide +kernel
theorem dX7_hold_23 : decode cX7_hold 23 = .ok (.invokevirtual 81, 3) := by decide +kernel
theorem dX7_hold_26 : decode cX7_hold 26 = .ok (.ifCond .ne 9, 3) := by decide +kernel
theorem dX7_hold_29 : decode cX7_hold 29 = .ok (.aload_n 0, 1) := by decide +kernel
theorem dX7_hold_30 : decode cX7_hold 30 = .ok (.iconst 0, 1) := by decide +kernel
theorem dX7_hold_31 : decode cX7_hold 31 = .ok (.invokevirtual 66, 3) := by decide +kernel
theorem dX7_hold_34 : decode cX7_hold 34 = .ok (.ireturn, 1) := by decide +kernel
theorem dX7_hold_35 : decode cX7_hold 35 = .ok (.aload_n 0, 1) := by decide +kernel
theorem dX7_hold_36 : decode cX7_hold 36 = .ok (.getfield 10, 3) := by decide +kernel
theorem dX7_hold_39 : decode cX7_hold 39 = .ok (.getfield 263, 3) := by decide +kernel
theorem dX7_hold_42 : decode cX7_hold 42 = .ok (.iload_n 1, 1) := by decide +kernel
theorem dX7_hold_43 : decode cX7_hold 43 = .ok (.iload_n 2, 1) := by decide +kernel
theorem dX7_hold_44 : decode cX7_hold 44 = .ok (.iastore, 1) := by decide +kernel
theorem dX7_hold_45 : decode cX7_hold 45 = .ok (.iconst 1, 1) := by decide +kernel
theorem dX7_hold_46 : decode cX7_hold 46 = .ok (.ireturn, 1) := by decide +kernel
theorem dX7_as_0 : decode cX7_as 0 = .ok (.iload_n 1, 1) := by decide +kernel
theorem dX7_as_1 : decode cX7_as 1 = .ok (.iconst 0, 1) := by decide +kernel
theorem dX7_as_2 : decode cX7_as 2 = .ok (.bipush 9, 2) := by decide +kernel
theorem dX7_as_4 : decode cX7_as 4 = .ok (.invokestatic 62, 3) := by decide +kernel
theorem dX7_as_7 : decode cX7_as 7 = .ok (.ifCond .eq 10, 3) := by decide +kernel
theorem dX7_as_10 : decode cX7_as 10 = .ok (.iload_n 2, 1) := by decide +kernel
theorem dX7_as_11 : decode cX7_as 11 = .ok (.invokestatic 55, 3) := by decide +kernel
theorem dX7_as_14 : decode cX7_as 14 = .ok (.ifCond .ne 9, 3) := by decide +kernel
theorem dX7_as_17 : decode cX7_as 17 = .ok (.aload_n 0, 1) := by decide +kernel
theorem dX7_as_18 : decode cX7_as 18 = .ok (.iconst 0, 1) := by decide +kernel
theorem dX7_as_19 : decode cX7_as 19 = .ok (.invokevirtual 66, 3) := by decide +kernel
theorem dX7_as_22 : decode cX7_as 22 = .ok (.ireturn, 1) := by decide +kernel
theorem dX7_as_23 : decode cX7_as 23 = .ok (.aload_n 0, 1) := by decide +kernel
theorem dX7_as_24 : decode cX7_as 24 = .ok (.getfield 10, 3) := by decide +kernel
theorem dX7_as_27 : decode cX7_as 27 = .ok (.getfield 263, 3) := by decide +kernel
theorem dX7_as_30 : decode cX7_as 30 = .ok (.iload_n 1, 1) := by decide +kernel
theorem dX7_as_31 : decode cX7_as 31 = .ok (.iaload, 1) := by decide +kernel
theorem dX7_as_32 : decode cX7_as 32 = .ok (.istore_n 3, 1) := by decide +kernel
theorem dX7_as_33 : decode cX7_as 33 = .ok (.aload_n 0, 1) := by decide +kernel
theorem dX7_as_34 : decode cX7_as 34 = .ok (.getfield 10, 3) := by decide +kernel
theorem dX7_as_37 : decode cX7_as 37 = .ok (.getfield 70, 3) := by decide +kernel
theorem dX7_as_40 : decode cX7_as 40 = .ok (.iload_n 3, 1) := by decide +kernel
theorem dX7_as_41 : decode cX7_as 41 = .ok (.invokevirtual 81, 3) := by decide +kernel
theorem dX7_as_44 : decode cX7_as 44 = .ok (.ifCond .ne 9, 3) := by decide +kernel
theorem dX7_as_47 : decode cX7_as 47 = .ok (.aload_n 0, 1) := by decide +kernel
theorem dX7_as_48 : decode cX7_as 48 = .ok (.iconst 5, 1) := by decide +kernel
theorem dX7_as_49 : decode cX7_as 49 = .ok (.invokevirtual 66, 3) := by decide +kernel
theorem dX7_as_52 : decode cX7_as 52 = .ok (.ireturn, 1) := by decide +kernel
theorem dX7_as_53 : decode cX7_as 53 = .ok (.aload_n 0, 1) := by decide +kernel
theorem dX7_as_54 : decode cX7_as 54 = .ok (.getfield 10, 3) := by decide +kernel
theorem dX7_as_57 : decode cX7_as 57 = .ok (.getfield 70, 3) := by decide +kernel
theorem dX7_as_60 : decode cX7_as 60 = .ok (.getfield 84, 3) := by decide +kernel
theorem dX7_as_63 : decode cX7_as 63 = .ok (.iload_n 3, 1) := by decide +kernel
theorem dX7_as_64 : decode cX7_as 64 = .ok (.aaload, 1) := by decide +kernel
theorem dX7_as_65 : decode cX7_as 65 = .ok (.getfield 88, 3) := by decide +kernel
theorem dX7_as_68 : decode cX7_as 68 = .ok (.iload_n 2, 1) := by decide +kernel
theorem dX7_as_69 : decode cX7_as 69 = .ok (.invokestatic 266, 3) := by decide +kernel
theorem dX7_as_72 : decode cX7_as 72 = .ok (.ifCond .eq 7, 3) := by decide +kernel
theorem dX7_as_75 : decode cX7_as 75 = .ok (.iload_n 3, 1) := by decide +kernel
theorem dX7_as_76 : decode cX7_as 76 = .ok (.goto 8, 3) := by decide +kernel
theorem dX7_as_79 : decode cX7_as 79 = .ok (.aload_n 0, 1) := by decide +kernel
theorem dX7_as_80 : decode cX7_as 80 = .ok (.iconst 2, 1) := by decide +kernel
theorem dX7_as_81 : decode cX7_as 81 = .ok (.invokevirtual 66, 3) := by decide +kernel
theorem dX7_as_84 : decode cX7_as 84 = .ok (.ireturn, 1) := by decide +kernel
theorem dX7_sheet_0 : decode cX7_sheet 0 = .ok (.iload_n 1, 1) := by decide +kernel
theorem dX7_sheet_1 : decode cX7_sheet 1 = .ok (.invokestatic 269, 3) := by decide +kernel
theorem dX7_sheet_4 : decode cX7_sheet 4 = .ok (.ifCond .eq 25, 3) := by decide +kernel
theorem dX7_sheet_7 : decode cX7_sheet 7 = .ok (.iload_n 2, 1) := by decide +kernel
theorem dX7_sheet_8 : decode cX7_sheet 8 = .ok (.ifCond .eq 27, 3) := by decide +kernel
theorem dX7_sheet_11 : decode cX7_sheet 11 = .ok (.iload_n 2, 1) := by decide +kernel
theorem dX7_sheet_12 : decode cX7_sheet 12 = .ok (.bipush 8, 2) := by decide +kernel
theorem dX7_sheet_14 : decode cX7_sheet 14 = .ok (.if_icmp .eq 21, 3) := by decide +kernel
theorem dX7_sheet_17 : decode cX7_sheet 17 = .ok (.iload_n 2, 1) := by decide +kernel
theorem dX7_sheet_18 : decode cX7_sheet 18 = .ok (.bipush 16, 2) := by decide +kernel
theorem dX7_sheet_20 : decode cX7_sheet 20 = .ok (.if_icmp .eq 15, 3) := by decide +kernel
theorem dX7_sheet_23 : decode cX7_sheet 23 = .ok (.iload_n 2, 1) := by decide +kernel
theorem dX7_sheet_24 : decode cX7_sheet 24 = .ok (.bipush 32, 2) := by decide +kernel
theorem dX7_sheet_26 : decode cX7_sheet 26 = .ok (.if_icmp .eq 9, 3) := by decide +kernel
theorem dX7_sheet_29 : decode cX7_sheet 29 = .ok (.aload_n 0, 1) := by decide +kernel
theorem dX7_sheet_30 : decode cX7_sheet 30 = .ok (.iconst 0, 1) := by decide +kernel
theorem dX7_sheet_31 : decode cX7_sheet 31 = .ok (.invokevirtual 66, 3) := by decide +kernel
theorem dX7_sheet_34 : decode cX7_sheet 34 = .ok (.ireturn, 1) := by decide +kernel
theorem dX7_sheet_35 : decode cX7_sheet 35 = .ok (.iload_n 3, 1) := by decide +kernel
theorem dX7_sheet_36 : decode cX7_sheet 36 = .ok (.ifCond .ge 10, 3) := by decide +kernel
theorem dX7_sheet_39 : decode cX7_sheet 39 = .ok (.aload_n 0, 1) := by decide +kernel
theorem dX7_sheet_40 : decode cX7_sheet 40 = .ok (.bipush 6, 2) := by decide +kernel
theorem dX7_sheet_42 : decode cX7_sheet 42 = .ok (.invokevirtual 66, 3) := by decide +kernel
theorem dX7_sheet_45 : decode cX7_sheet 45 = .ok (.ireturn, 1) := by decide +kernel
theorem dX7_sheet_46 : decode cX7_sheet 46 = .ok (.iload_n 3, 1) := by decide +kernel
theorem dX7_sheet_47 : decode cX7_sheet 47 = .ok (.bipush 40, 2) := by decide +kernel
theorem dX7_sheet_49 : decode cX7_sheet 49 = .ok (.if_icmp .le 9, 3) := by decide +kernel
theorem dX7_sheet_52 : decode cX7_sheet 52 = .ok (.aload_n 0, 1) := by decide +kernel
theorem dX7_sheet_53 : decode cX7_sheet 53 = .ok (.iconst 0, 1) := by decide +kernel
theorem dX7_sheet_54 : decode cX7_sheet 54 = .ok (.invokevirtual 66, 3) := by decide +kernel
theorem dX7_sheet_57 : decode cX7_sheet 57 = .ok (.ireturn, 1) := by decide +kernel
theorem dX7_sheet_58 : decode cX7_sheet 58 = .ok (.aload_n 0, 1) := by decide +kernel
theorem dX7_sheet_59 : decode cX7_sheet 59 = .ok (.getfield 46, 3) := by decide +kernel
theorem dX7_sheet_62 : decode cX7_sheet 62 = .ok (.iload_n 1, 1) := by decide +kernel
theorem dX7_sheet_63 : decode cX7_sheet 63 = .ok (.aaload, 1) := by decide +kernel
theorem dX7_sheet_64 : decode cX7_sheet 64 = .ok (.iload_n 2, 1) := by decide +kernel
theorem dX7_sheet_65 : decode cX7_sheet 65 = .ok (.iload_n 3, 1) := by decide +kernel
theorem dX7_sheet_66 : decode cX7_sheet 66 = .ok (.invokevirtual 272, 3) := by decide +kernel
theorem dX7_sheet_69 : decode cX7_sheet 69 = .ok (.aload_n 0, 1) := by decide +kernel
theorem dX7_sheet_70 : decode cX7_sheet 70 = .ok (.getfield 46, 3) := by decide +kernel
theorem dX7_sheet_73 : decode cX7_sheet 73 = .ok (.iload_n 1, 1) := by decide +kernel
theorem dX7_sheet_74 : decode cX7_sheet 74 = .ok (.aaload, 1) := by decide +kernel
theorem dX7_sheet_75 : decode cX7_sheet 75 = .ok (.getfield 274, 3) := by decide +kernel
theorem dX7_sheet_78 : decode cX7_sheet 78 = .ok (.ireturn, 1) := by decide +kernel
theorem dX7_write_0 : decode cX7_write 0 = .ok (.iload_n 1, 1) := by decide +kernel
theorem dX7_write_1 : decode cX7_write 1 = .ok (.invokestatic 269, 3) := by decide +kernel
theorem dX7_write_4 : decode cX7_write 4 = .ok (.ifCond .ne 9, 3) := by decide +kernel
theorem dX7_write_7 : decode cX7_write 7 = .ok (.aload_n 0, 1) := by decide +kernel
theorem dX7_write_8 : decode cX7_write 8 = .ok (.iconst 0, 1) := by decide +kernel
theorem dX7_write_9 : decode cX7_write 9 = .ok (.invokevirtual 66, 3) := by decide +kernel
theorem dX7_write_12 : decode cX7_write 12 = .ok (.ireturn, 1) := by decide +kernel
theorem dX7_write_13 : decode cX7_write 13 = .ok (.aload_n 0, 1) := by decide +kernel
theorem dX7_write_14 : decode cX7_write 14 = .ok (.getfield 46, 3) := by decide +kernel
theorem dX7_write_17 : decode cX7_write 17 = .ok (.iload_n 1, 1) := by decide +kernel
theorem dX7_write_18 : decode cX7_write 18 = .ok (.aaload, 1) := by decide +kernel
theorem dX7_write_19 : decode cX7_write 19 = .ok (.invokevirtual 275, 3) := by decide +kernel
theorem dX7_write_22 : decode cX7_write 22 = .ok (.ifCond .eq 9, 3) := by decide +kernel
theorem dX7_write_25 : decode cX7_write 25 = .ok (.aload_n 0, 1) := by decide +kernel
theorem dX7_write_26 : decode cX7_write 26 = .ok (.iconst 5, 1) := by decide +kernel
theorem dX7_write_27 : decode cX7_write 27 = .ok (.invokevirtual 66, 3) := by decide +kernel
theorem dX7_write_30 : decode cX7_write 30 = .ok (.ireturn, 1) := by decide +kernel
theorem dX7_write_31 : decode cX7_write 31 = .ok (.iload_n 2, 1) := by decide +kernel
theorem dX7_write_32 : decode cX7_write 32 = .ok (.iconst 0, 1) := by decide +kernel
theorem dX7_write_33 : decode cX7_write 33 = .ok (.aload_n 0, 1) := by decide +kernel
theorem dX7_write_34 : decode cX7_write 34 = .ok (.getfield 46, 3) := by decide +kernel
theorem dX7_write_37 : decode cX7_write 37 = .ok (.iload_n 1, 1) := by decide +kernel
theorem dX7_write_38 : decode cX7_write 38 = .ok (.aaload, 1) := by decide +kernel
theorem dX7_write_39 : decode cX7_write 39 = .ok (.getfield 274, 3) := by decide +kernel
theorem dX7_write_42 : decode cX7_write 42 = .ok (.iconst 1, 1) := by decide +kernel
theorem dX7_write_43 : decode cX7_write 43 = .ok (.isub, 1) := by decide +kernel
theorem dX7_write_44 : decode cX7_write 44 = .ok (.invokestatic 62, 3) := by decide +kernel
theorem dX7_write_47 : decode cX7_write 47 = .ok (.ifCond .ne 9, 3) := by decide +kernel
theorem dX7_write_50 : decode cX7_write 50 = .ok (.aload_n 0, 1) := by decide +kernel
theorem dX7_write_51 : decode cX7_write 51 = .ok (.iconst 0, 1) := by decide +kernel
theorem dX7_write_52 : decode cX7_write 52 = .ok (.invokevirtual 66, 3) := by decide +kernel
theorem dX7_write_55 : decode cX7_write 55 = .ok (.ireturn, 1) := by decide +kernel
theorem dX7_write_56 : decode cX7_write 56 = .ok (.aload_n 0, 1) := by decide +kernel
theorem dX7_write_57 : decode cX7_write 57 = .ok (.getfield 46, 3) := by decide +kernel
theorem dX7_write_60 : decode cX7_write 60 = .ok (.iload_n 1, 1) := by decide +kernel
theorem dX7_write_61 : decode cX7_write 61 = .ok (.aaload, 1) := by decide +kernel
theorem dX7_write_62 : decode cX7_write 62 = .ok (.iload_n 2, 1) := by decide +kernel
theorem dX7_write_63 : decode cX7_write 63 = .ok (.iload_n 3, 1) := by decide +kernel
theorem dX7_write_64 : decode cX7_write 64 = .ok (.invokevirtual 278, 3) := by decide +kernel
theorem dX7_write_67 : decode cX7_write 67 = .ok (.iconst 1, 1) := by decide +kernel
theorem dX7_write_68 : decode cX7_write 68 = .ok (.ireturn, 1) := by decide +kernel
theorem dX7_copy_0 : decode cX7_copy 0 = .ok (.iload_n 1, 1) := by decide +kernel
theorem dX7_copy_1 : decode cX7_copy 1 = .ok (.invokestatic 269, 3) := by decide +kernel
theorem dX7_copy_4 : decode cX7_copy 4 = .ok (.ifCond .eq 10, 3) := by decide +kernel
theorem dX7_copy_7 : decode cX7_copy 7 = .ok (.iload_n 3, 1) := by decide +kernel
theorem dX7_copy_8 : decode cX7_copy 8 = .ok (.invokestatic 269, 3) := by decide +kernel
theorem dX7_copy_11 : decode cX7_copy 11 = .ok (.ifCond .ne 9, 3) := by decide +kernel
theorem dX7_copy_14 : decode cX7_copy 14 = .ok (.aload_n 0, 1) := by decide +kernel
theorem dX7_copy_15 : decode cX7_copy 15 = .ok (.iconst 0, 1) := by decide +kernel
theorem dX7_copy_16 : decode cX7_copy 16 = .ok (.invokevirtual 66, 3) := by decide +kernel
theorem dX7_copy_19 : decode cX7_copy 19 = .ok (.ireturn, 1) := by decide +kernel
theorem dX7_copy_20 : decode cX7_copy 20 = .ok (.aload_n 0, 1) := by decide +kernel
theorem dX7_copy_21 : decode cX7_copy 21 = .ok (.getfield 46, 3) := by decide +kernel
theorem dX7_copy_24 : decode cX7_copy 24 = .ok (.iload_n 1, 1) := by decide +kernel
theorem dX7_copy_25 : decode cX7_copy 25 = .ok (.aaload, 1) := by decide +kernel
theorem dX7_copy_26 : decode cX7_copy 26 = .ok (.astore 6, 2) := by decide +kernel
theorem dX7_copy_28 : decode cX7_copy 28 = .ok (.aload_n 0, 1) := by decide +kernel
theorem dX7_copy_29 : decode cX7_copy 29 = .ok (.getfield 46, 3) := by decide +kernel
theorem dX7_copy_32 : decode cX7_copy 32 = .ok (.iload_n 3, 1) := by decide +kernel
theorem dX7_copy_33 : decode cX7_copy 33 = .ok (.aaload, 1) := by decide +kernel
theorem dX7_copy_34 : decode cX7_copy 34 = .ok (.astore 7, 2) := by decide +kernel
theorem dX7_copy_36 : decode cX7_copy 36 = .ok (.aload 6, 2) := by decide +kernel
theorem dX7_copy_38 : decode cX7_copy 38 = .ok (.invokevirtual 275, 3) := by decide +kernel
theorem dX7_copy_41 : decode cX7_copy 41 = .ok (.ifCond .ne 11, 3) := by decide +kernel
theorem dX7_copy_44 : decode cX7_copy 44 = .ok (.aload 7, 2) := by decide +kernel
theorem dX7_copy_46 : decode cX7_copy 46 = .ok (.invokevirtual 275, 3) := by decide +kernel
theorem dX7_copy_49 : decode cX7_copy 49 = .ok (.ifCond .eq 9, 3) := by decide +kernel
theorem dX7_copy_52 : decode cX7_copy 52 = .ok (.aload_n 0, 1) := by decide +kernel
theorem dX7_copy_53 : decode cX7_copy 53 = .ok (.iconst 5, 1) := by decide +kernel
theorem dX7_copy_54 : decode cX7_copy 54 = .ok (.invokevirtual 66, 3) := by decide +kernel
theorem dX7_copy_57 : decode cX7_copy 57 = .ok (.ireturn, 1) := by decide +kernel
theorem dX7_copy_58 : decode cX7_copy 58 = .ok (.aload 6, 2) := by decide +kernel
theorem dX7_copy_60 : decode cX7_copy 60 = .ok (.getfield 281, 3) := by decide +kernel
theorem dX7_copy_63 : decode cX7_copy 63 = .ok (.aload 7, 2) := by decide +kernel
theorem dX7_copy_65 : decode cX7_copy 65 = .ok (.getfield 281, 3) := by decide +kernel
theorem dX7_copy_68 : decode cX7_copy 68 = .ok (.if_icmp .eq 9, 3) := by decide +kernel
theorem dX7_copy_71 : decode cX7_copy 71 = .ok (.aload_n 0, 1) := by decide +kernel
theorem dX7_copy_72 : decode cX7_copy 72 = .ok (.iconst 2, 1) := by decide +kernel
theorem dX7_copy_73 : decode cX7_copy 73 = .ok (.invokevirtual 66, 3) := by decide +kernel
theorem dX7_copy_76 : decode cX7_copy 76 = .ok (.ireturn, 1) := by decide +kernel
theorem dX7_copy_77 : decode cX7_copy 77 = .ok (.aload 6, 2) := by decide +kernel
theorem dX7_copy_79 : decode cX7_copy 79 = .ok (.iload_n 2, 1) := by decide +kernel
theorem dX7_copy_80 : decode cX7_copy 80 = .ok (.iload 5, 2) := by decide +kernel
theorem dX7_copy_82 : decode cX7_copy 82 = .ok (.invokevirtual 284, 3) := by decide +kernel
theorem dX7_copy_85 : decode cX7_copy 85 = .ok (.ifCond .eq 15, 3) := by decide +kernel
theorem dX7_copy_88 : decode cX7_copy 88 = .ok (.aload 7, 2) := by decide +kernel
theorem dX7_copy_90 : decode cX7_copy 90 = .ok (.iload 4, 2) := by decide +kernel
theorem dX7_copy_92 : decode cX7_copy 92 = .ok (.iload 5, 2) := by decide +kernel
theorem dX7_copy_94 : decode cX7_copy 94 = .ok (.invokevirtual 284, 3) := by decide +kernel
theorem dX7_copy_97 : decode cX7_copy 97 = .ok (.ifCond .ne 9, 3) := by decide +kernel
theorem dX7_copy_100 : decode cX7_copy 100 = .ok (.aload_n 0, 1) := by decide +kernel
theorem dX7_copy_101 : decode cX7_copy 101 = .ok (.iconst 0, 1) := by decide +kernel
theorem dX7_copy_102 : decode cX7_copy 102 = .ok (.invokevirtual 66, 3) := by decide +kernel
theorem dX7_copy_105 : decode cX7_copy 105 = .ok (.ireturn, 1) := by decide +kernel
theorem dX7_copy_106 : decode cX7_copy 106 = .ok (.aload 6, 2) := by decide +kernel
theorem dX7_copy_108 : decode cX7_copy 108 = .ok (.getfield 287, 3) := by decide +kernel
theorem dX7_copy_111 : decode cX7_copy 111 = .ok (.iload_n 2, 1) := by decide +kernel
theorem dX7_copy_112 : decode cX7_copy 112 = .ok (.aload 7, 2) := by decide +kernel
theorem dX7_copy_114 : decode cX7_copy 114 = .ok (.getfield 287, 3) := by decide +kernel
theorem dX7_copy_117 : decode cX7_copy 117 = .ok (.iload 4, 2) := by decide +kernel
theorem dX7_copy_119 : decode cX7_copy 119 = .ok (.iload 5, 2) := by decide +kernel
theorem dX7_copy_121 : decode cX7_copy 121 = .ok (.invokestatic 290, 3) := by decide +kernel
theorem dX7_copy_124 : decode cX7_copy 124 = .ok (.iload 5, 2) := by decide +kernel
theorem dX7_copy_126 : decode cX7_copy 126 = .ok (.ireturn, 1) := by decide +kernel
theorem dX7_load_0 : decode cX7_load 0 = .ok (.iload_n 1, 1) := by decide +kernel
theorem dX7_load_1 : decode cX7_load 1 = .ok (.invokestatic 269, 3) := by decide +kernel
theorem dX7_load_4 : decode cX7_load 4 = .ok (.ifCond .ne 9, 3) := by decide +kernel
theorem dX7_load_7 : decode cX7_load 7 = .ok (.aload_n 0, 1) := by decide +kernel
theorem dX7_load_8 : decode cX7_load 8 = .ok (.iconst 0, 1) := by decide +kernel
theorem dX7_load_9 : decode cX7_load 9 = .ok (.invokevirtual 66, 3) := by decide +kernel
theorem dX7_load_12 : decode cX7_load 12 = .ok (.ireturn, 1) := by decide +kernel
theorem dX7_load_13 : decode cX7_load 13 = .ok (.aload_n 0, 1) := by decide +kernel
theorem dX7_load_14 : decode cX7_load 14 = .ok (.getfield 46, 3) := by decide +kernel
theorem dX7_load_17 : decode cX7_load 17 = .ok (.iload_n 1, 1) := by decide +kernel
theorem dX7_load_18 : decode cX7_load 18 = .ok (.aaload, 1) := by decide +kernel
theorem dX7_load_19 : decode cX7_load 19 = .ok (.invokevirtual 275, 3) := by decide +kernel
theorem dX7_load_22 : decode cX7_load 22 = .ok (.ifCond .eq 9, 3) := by decide +kernel
theorem dX7_load_25 : decode cX7_load 25 = .ok (.aload_n 0, 1) := by decide +kernel
theorem dX7_load_26 : decode cX7_load 26 = .ok (.iconst 5, 1) := by decide +kernel
theorem dX7_load_27 : decode cX7_load 27 = .ok (.invokevirtual 66, 3) := by decide +kernel
theorem dX7_load_30 : decode cX7_load 30 = .ok (.ireturn, 1) := by decide +kernel
theorem dX7_load_31 : decode cX7_load 31 = .ok (.iconst 0, 1) := by decide +kernel
theorem dX7_load_32 : decode cX7_load 32 = .ok (.istore_n 2, 1) := by decide +kernel
theorem dX7_load_33 : decode cX7_load 33 = .ok (.iload_n 2, 1) := by decide +kernel
theorem dX7_load_34 : decode cX7_load 34 = .ok (.aload_n 0, 1) := by decide +kernel
theorem dX7_load_35 : decode cX7_load 35 = .ok (.getfield 46, 3) := by decide +kernel
theorem dX7_load_38 : decode cX7_load 38 = .ok (.iload_n 1, 1) := by decide +kernel
theorem dX7_load_39 : decode cX7_load 39 = .ok (.aaload, 1) := by decide +kernel
theorem dX7_load_40 : decode cX7_load 40 = .ok (.getfield 274, 3) := by decide +kernel
theorem dX7_load_43 : decode cX7_load 43 = .ok (.if_icmp .ge 58, 3) := by decide +kernel
theorem dX7_load_46 : decode cX7_load 46 = .ok (.iload_n 2, 1) := by decide +kernel
theorem dX7_load_47 : decode cX7_load 47 = .ok (.bipush 12, 2) := by decide +kernel
theorem dX7_load_49 : decode cX7_load 49 = .ok (.if_icmp .ge 52, 3) := by decide +kernel
theorem dX7_load_52 : decode cX7_load 52 = .ok (.aload_n 0, 1) := by decide +kernel
theorem dX7_load_53 : decode cX7_load 53 = .ok (.getfield 46, 3) := by decide +kernel
theorem dX7_load_56 : decode cX7_load 56 = .ok (.iload_n 1, 1) := by decide +kernel
theorem dX7_load_57 : decode cX7_load 57 = .ok (.aaload, 1) := by decide +kernel
theorem dX7_load_58 : decode cX7_load 58 = .ok (.getfield 287, 3) := by decide +kernel
theorem dX7_load_61 : decode cX7_load 61 = .ok (.iload_n 2, 1) := by decide +kernel
theorem dX7_load_62 : decode cX7_load 62 = .ok (.iaload, 1) := by decide +kernel
theorem dX7_load_63 : decode cX7_load 63 = .ok (.iconst 0, 1) := by decide +kernel
theorem dX7_load_64 : decode cX7_load 64 = .ok (.bipush 9, 2) := by decide +kernel
theorem dX7_load_66 : decode cX7_load 66 = .ok (.invokestatic 62, 3) := by decide +kernel
theorem dX7_load_69 : decode cX7_load 69 = .ok (.ifCond .eq 32, 3) := by decide +kernel
theorem dX7_load_72 : decode cX7_load 72 = .ok (.aload_n 0, 1) := by decide +kernel
theorem dX7_load_73 : decode cX7_load 73 = .ok (.getfield 10, 3) := by decide +kernel
theorem dX7_load_76 : decode cX7_load 76 = .ok (.getfield 70, 3) := by decide +kernel
theorem dX7_load_79 : decode cX7_load 79 = .ok (.getfield 129, 3) := by decide +kernel
theorem dX7_load_82 : decode cX7_load 82 = .ok (.iload_n 2, 1) := by decide +kernel
theorem dX7_load_83 : decode cX7_load 83 = .ok (.aload_n 0, 1) := by decide +kernel
theorem dX7_load_84 : decode cX7_load 84 = .ok (.getfield 46, 3) := by decide +kernel
theorem dX7_load_87 : decode cX7_load 87 = .ok (.iload_n 1, 1) := by decide +kernel
theorem dX7_load_88 : decode cX7_load 88 = .ok (.aaload, 1) := by decide +kernel
theorem dX7_load_89 : decode cX7_load 89 = .ok (.getfield 287, 3) := by decide +kernel
theorem dX7_load_92 : decode cX7_load 92 = .ok (.iload_n 2, 1) := by decide +kernel
theorem dX7_load_93 : decode cX7_load 93 = .ok (.iaload, 1) := by decide +kernel
theorem dX7_load_94 : decode cX7_load 94 = .ok (.iastore, 1) := by decide +kernel
theorem dX7_load_95 : decode cX7_load 95 = .ok (.iinc 2 1, 3) := by decide +kernel
theorem dX7_load_98 : decode cX7_load 98 = .ok (.goto (-65), 3) := by decide +kernel
theorem dX7_load_101 : decode cX7_load 101 = .ok (.iload_n 2, 1) := by decide +kernel
theorem dX7_load_102 : decode cX7_load 102 = .ok (.ireturn, 1) := by decide +kernel
theorem dX7_judge_0 : decode cX7_judge 0 = .ok (.iload_n 1, 1) := by decide +kernel
theorem dX7_judge_1 : decode cX7_judge 1 = .ok (.invokestatic 269, 3) := by decide +kernel
theorem dX7_judge_4 : decode cX7_judge 4 = .ok (.ifCond .ne 9, 3) := by decide +kernel
theorem dX7_judge_7 : decode cX7_judge 7 = .ok (.aload_n 0, 1) := by decide +kernel
theorem dX7_judge_8 : decode cX7_judge 8 = .ok (.iconst 0, 1) := by decide +kernel
theorem dX7_judge_9 : decode cX7_judge 9 = .ok (.invokevirtual 66, 3) := by decide +kernel
theorem dX7_judge_12 : decode cX7_judge 12 = .ok (.ireturn, 1) := by decide +kernel
theorem dX7_judge_13 : decode cX7_judge 13 = .ok (.aload_n 0, 1) := by decide +kernel
theorem dX7_judge_14 : decode cX7_judge 14 = .ok (.getfield 46, 3) := by decide +kernel
theorem dX7_judge_17 : decode cX7_judge 17 = .ok (.iload_n 1, 1) := by decide +kernel
theorem dX7_judge_18 : decode cX7_judge 18 = .ok (.aaload, 1) := by decide +kernel
theorem dX7_judge_19 : decode cX7_judge 19 = .ok (.invokevirtual 275, 3) := by decide +kernel
theorem dX7_judge_22 : decode cX7_judge 22 = .ok (.ifCond .eq 9, 3) := by decide +kernel
theorem dX7_judge_25 : decode cX7_judge 25 = .ok (.aload_n 0, 1) := by decide +kernel
theorem dX7_judge_26 : decode cX7_judge 26 = .ok (.iconst 5, 1) := by decide +kernel
theorem dX7_judge_27 : decode cX7_judge 27 = .ok (.invokevirtual 66, 3) := by decide +kernel
theorem dX7_judge_30 : decode cX7_judge 30 = .ok (.ireturn, 1) := by decide +kernel
theorem dX7_judge_31 : decode cX7_judge 31 = .ok (.aload_n 0, 1) := by decide +kernel
theorem dX7_judge_32 : decode cX7_judge 32 = .ok (.getfield 10, 3) := by decide +kernel
theorem dX7_judge_35 : decode cX7_judge 35 = .ok (.getfield 70, 3) := by decide +kernel
theorem dX7_judge_38 : decode cX7_judge 38 = .ok (.astore_n 2, 1) := by decide +kernel
theorem dX7_judge_39 : decode cX7_judge 39 = .ok (.aload_n 0, 1) := by decide +kernel
theorem dX7_judge_40 : decode cX7_judge 40 = .ok (.getfield 10, 3) := by decide +kernel
theorem dX7_judge_43 : decode cX7_judge 43 = .ok (.getfield 135, 3) := by decide +kernel
theorem dX7_judge_46 : decode cX7_judge 46 = .ok (.getfield 160, 3) := by decide +kernel
theorem dX7_judge_49 : decode cX7_judge 49 = .ok (.istore_n 3, 1) := by decide +kernel
theorem dX7_judge_50 : decode cX7_judge 50 = .ok (.aload_n 0, 1) := by decide +kernel
theorem dX7_judge_51 : decode cX7_judge 51 = .ok (.getfield 10, 3) := by decide +kernel
theorem dX7_judge_54 : decode cX7_judge 54 = .ok (.getfield 135, 3) := by decide +kernel
theorem dX7_judge_57 : decode cX7_judge 57 = .ok (.getfield 163, 3) := by decide +kernel
theorem dX7_judge_60 : decode cX7_judge 60 = .ok (.istore 4, 2) := by decide +kernel
theorem dX7_judge_62 : decode cX7_judge 62 = .ok (.iconst 0, 1) := by decide +kernel
theorem dX7_judge_63 : decode cX7_judge 63 = .ok (.istore 5, 2) := by decide +kernel
theorem dX7_judge_65 : decode cX7_judge 65 = .ok (.iconst 0, 1) := by decide +kernel
theorem dX7_judge_66 : decode cX7_judge 66 = .ok (.istore 6, 2) := by decide +kernel
theorem dX7_judge_68 : decode cX7_judge 68 = .ok (.iload 6, 2) := by decide +kernel
theorem dX7_judge_70 : decode cX7_judge 70 = .ok (.aload_n 0, 1) := by decide +kernel
theorem dX7_judge_71 : decode cX7_judge 71 = .ok (.getfield 46, 3) := by decide +kernel
theorem dX7_judge_74 : decode cX7_judge 74 = .ok (.iload_n 1, 1) := by decide +kernel
theorem dX7_judge_75 : decode cX7_judge 75 = .ok (.aaload, 1) := by decide +kernel
theorem dX7_judge_76 : decode cX7_judge 76 = .ok (.getfield 274, 3) := by decide +kernel
theorem dX7_judge_79 : decode cX7_judge 79 = .ok (.if_icmp .ge 110, 3) := by decide +kernel
theorem dX7_judge_82 : decode cX7_judge 82 = .ok (.aload_n 0, 1) := by decide +kernel
theorem dX7_judge_83 : decode cX7_judge 83 = .ok (.getfield 46, 3) := by decide +kernel
theorem dX7_judge_86 : decode cX7_judge 86 = .ok (.iload_n 1, 1) := by decide +kernel
theorem dX7_judge_87 : decode cX7_judge 87 = .ok (.aaload, 1) := by decide +kernel
theorem dX7_judge_88 : decode cX7_judge 88 = .ok (.getfield 287, 3) := by decide +kernel
theorem dX7_judge_91 : decode cX7_judge 91 = .ok (.iload 6, 2) := by decide +kernel
theorem dX7_judge_93 : decode cX7_judge 93 = .ok (.iaload, 1) := by decide +kernel
theorem dX7_judge_94 : decode cX7_judge 94 = .ok (.istore 7, 2) := by decide +kernel
theorem dX7_judge_96 : decode cX7_judge 96 = .ok (.iload 7, 2) := by decide +kernel
theorem dX7_judge_98 : decode cX7_judge 98 = .ok (.invokestatic 59, 3) := by decide +kernel
theorem dX7_judge_101 : decode cX7_judge 101 = .ok (.ifCond .eq 13, 3) := by decide +kernel
theorem dX7_judge_104 : decode cX7_judge 104 = .ok (.aload_n 2, 1) := by decide +kernel
theorem dX7_judge_105 : decode cX7_judge 105 = .ok (.iload_n 3, 1) := by decide +kernel
theorem dX7_judge_106 : decode cX7_judge 106 = .ok (.iload 7, 2) := by decide +kernel
theorem dX7_judge_108 : decode cX7_judge 108 = .ok (.invokevirtual 151, 3) := by decide +kernel
theorem dX7_judge_111 : decode cX7_judge 111 = .ok (.goto 4, 3) := by decide +kernel
theorem dX7_judge_114 : decode cX7_judge 114 = .ok (.iconst (-1), 1) := by decide +kernel
theorem dX7_judge_115 : decode cX7_judge 115 = .ok (.istore 8, 2) := by decide +kernel
theorem dX7_judge_117 : decode cX7_judge 117 = .ok (.iload 8, 2) := by decide +kernel
theorem dX7_judge_119 : decode cX7_judge 119 = .ok (.ifCond .ge 9, 3) := by decide +kernel
theorem dX7_judge_122 : decode cX7_judge 122 = .ok (.aload_n 0, 1) := by decide +kernel
theorem dX7_judge_123 : decode cX7_judge 123 = .ok (.iconst 3, 1) := by decide +kernel
theorem dX7_judge_124 : decode cX7_judge 124 = .ok (.invokevirtual 66, 3) := by decide +kernel
theorem dX7_judge_127 : decode cX7_judge 127 = .ok (.ireturn, 1) := by decide +kernel
theorem dX7_judge_128 : decode cX7_judge 128 = .ok (.iload 5, 2) := by decide +kernel
theorem dX7_judge_130 : decode cX7_judge 130 = .ok (.aload_n 2, 1) := by decide +kernel
theorem dX7_judge_131 : decode cX7_judge 131 = .ok (.iload 8, 2) := by decide +kernel
theorem dX7_judge_133 : decode cX7_judge 133 = .ok (.iload 4, 2) := by decide +kernel
theorem dX7_judge_135 : decode cX7_judge 135 = .ok (.aload_n 0, 1) := by decide +kernel
theorem dX7_judge_136 : decode cX7_judge 136 = .ok (.getfield 10, 3) := by decide +kernel
theorem dX7_judge_139 : decode cX7_judge 139 = .ok (.getfield 135, 3) := by decide +kernel
theorem dX7_judge_142 : decode cX7_judge 142 = .ok (.getfield 139, 3) := by decide +kernel
theorem dX7_judge_145 : decode cX7_judge 145 = .ok (.invokevirtual 296, 3) := by decide +kernel
theorem dX7_judge_148 : decode cX7_judge 148 = .ok (.iadd, 1) := by decide +kernel
theorem dX7_judge_149 : decode cX7_judge 149 = .ok (.istore 5, 2) := by decide +kernel
theorem dX7_judge_151 : decode cX7_judge 151 = .ok (.iload 4, 2) := by decide +kernel
theorem dX7_judge_153 : decode cX7_judge 153 = .ok (.aload_n 2, 1) := by decide +kernel
theorem dX7_judge_154 : decode cX7_judge 154 = .ok (.getfield 84, 3) := by decide +kernel
theorem dX7_judge_157 : decode cX7_judge 157 = .ok (.iload 8, 2) := by decide +kernel
theorem dX7_judge_159 : decode cX7_judge 159 = .ok (.aaload, 1) := by decide +kernel
theorem dX7_judge_160 : decode cX7_judge 160 = .ok (.invokevirtual 115, 3) := by decide +kernel
theorem dX7_judge_163 : decode cX7_judge 163 = .ok (.iadd, 1) := by decide +kernel
theorem dX7_judge_164 : decode cX7_judge 164 = .ok (.istore 4, 2) := by decide +kernel
theorem dX7_judge_166 : decode cX7_judge 166 = .ok (.iload 4, 2) := by decide +kernel
theorem dX7_judge_168 : decode cX7_judge 168 = .ok (.sipush 999, 3) := by decide +kernel
theorem dX7_judge_171 : decode cX7_judge 171 = .ok (.if_icmp .le 9, 3) := by decide +kernel
theorem dX7_judge_174 : decode cX7_judge 174 = .ok (.aload_n 0, 1) := by decide +kernel
theorem dX7_judge_175 : decode cX7_judge 175 = .ok (.iconst 4, 1) := by decide +kernel
theorem dX7_judge_176 : decode cX7_judge 176 = .ok (.invokevirtual 66, 3) := by decide +kernel
theorem dX7_judge_179 : decode cX7_judge 179 = .ok (.ireturn, 1) := by decide +kernel
theorem dX7_judge_180 : decode cX7_judge 180 = .ok (.iload 7, 2) := by decide +kernel
theorem dX7_judge_182 : decode cX7_judge 182 = .ok (.istore_n 3, 1) := by decide +kernel
theorem dX7_judge_183 : decode cX7_judge 183 = .ok (.iinc 6 1, 3) := by decide +kernel
theorem dX7_judge_186 : decode cX7_judge 186 = .ok (.goto (-118), 3) := by decide +kernel
theorem dX7_judge_189 : decode cX7_judge 189 = .ok (.iconst 0, 1) := by decide +kernel
theorem dX7_judge_190 : decode cX7_judge 190 = .ok (.aload_n 0, 1) := by decide +kernel
theorem dX7_judge_191 : decode cX7_judge 191 = .ok (.getfield 10, 3) := by decide +kernel
theorem dX7_judge_194 : decode cX7_judge 194 = .ok (.getfield 135, 3) := by decide +kernel
theorem dX7_judge_197 : decode cX7_judge 197 = .ok (.invokevirtual 157, 3) := by decide +kernel
theorem dX7_judge_200 : decode cX7_judge 200 = .ok (.iload 5, 2) := by decide +kernel
theorem dX7_judge_202 : decode cX7_judge 202 = .ok (.isub, 1) := by decide +kernel
theorem dX7_judge_203 : decode cX7_judge 203 = .ok (.invokestatic 106, 3) := by decide +kernel
theorem dX7_judge_206 : decode cX7_judge 206 = .ok (.ireturn, 1) := by decide +kernel
theorem dX7_image_0 : decode cX7_image 0 = .ok (.aload_n 0, 1) := by decide +kernel
theorem dX7_image_1 : decode cX7_image 1 = .ok (.getfield 16, 3) := by decide +kernel
theorem dX7_image_4 : decode cX7_image 4 = .ok (.aload_n 0, 1) := by decide +kernel
theorem dX7_image_5 : decode cX7_image 5 = .ok (.getfield 10, 3) := by decide +kernel
theorem dX7_image_8 : decode cX7_image 8 = .ok (.invokevirtual 299, 3) := by decide +kernel
theorem dX7_image_11 : decode cX7_image 11 = .ok (.aload_n 0, 1) := by decide +kernel
theorem dX7_image_12 : decode cX7_image 12 = .ok (.iconst 1, 1) := by decide +kernel
theorem dX7_image_13 : decode cX7_image 13 = .ok (.putfield 19, 3) := by decide +kernel
theorem dX7_image_16 : decode cX7_image 16 = .ok (.iconst 1, 1) := by decide +kernel
theorem dX7_image_17 : decode cX7_image 17 = .ok (.ireturn, 1) := by decide +kernel
theorem dX7_undo_0 : decode cX7_undo 0 = .ok (.aload_n 0, 1) := by decide +kernel
theorem dX7_undo_1 : decode cX7_undo 1 = .ok (.getfield 19, 3) := by decide +kernel
theorem dX7_undo_4 : decode cX7_undo 4 = .ok (.ifCond .ne 9, 3) := by decide +kernel
theorem dX7_undo_7 : decode cX7_undo 7 = .ok (.aload_n 0, 1) := by decide +kernel
theorem dX7_undo_8 : decode cX7_undo 8 = .ok (.iconst 3, 1) := by decide +kernel
theorem dX7_undo_9 : decode cX7_undo 9 = .ok (.invokevirtual 66, 3) := by decide +kernel
theorem dX7_undo_12 : decode cX7_undo 12 = .ok (.ireturn, 1) := by decide +kernel
theorem dX7_undo_13 : decode cX7_undo 13 = .ok (.aload_n 0, 1) := by decide +kernel
theorem dX7_undo_14 : decode cX7_undo 14 = .ok (.getfield 10, 3) := by decide +kernel
theorem dX7_undo_17 : decode cX7_undo 17 = .ok (.aload_n 0, 1) := by decide +kernel
theorem dX7_undo_18 : decode cX7_undo 18 = .ok (.getfield 16, 3) := by decide +kernel
theorem dX7_undo_21 : decode cX7_undo 21 = .ok (.invokevirtual 299, 3) := by decide +kernel
theorem dX7_undo_24 : decode cX7_undo 24 = .ok (.aload_n 0, 1) := by decide +kernel
theorem dX7_undo_25 : decode cX7_undo 25 = .ok (.getfield 10, 3) := by decide +kernel
theorem dX7_undo_28 : decode cX7_undo 28 = .ok (.getfield 135, 3) := by decide +kernel
theorem dX7_undo_31 : decode cX7_undo 31 = .ok (.getfield 163, 3) := by decide +kernel
theorem dX7_undo_34 : decode cX7_undo 34 = .ok (.ireturn, 1) := by decide +kernel
theorem dX7_tear_0 : decode cX7_tear 0 = .ok (.aload_n 0, 1) := by decide +kernel
theorem dX7_tear_1 : decode cX7_tear 1 = .ok (.getfield 19, 3) := by decide +kernel
theorem dX7_tear_4 : decode cX7_tear 4 = .ok (.ifCond .eq 7, 3) := by decide +kernel
theorem dX7_tear_7 : decode cX7_tear 7 = .ok (.iconst 1, 1) := by decide +kernel
theorem dX7_tear_8 : decode cX7_tear 8 = .ok (.goto 4, 3) := by decide +kernel
theorem dX7_tear_11 : decode cX7_tear 11 = .ok (.iconst 0, 1) := by decide +kernel
theorem dX7_tear_12 : decode cX7_tear 12 = .ok (.istore_n 1, 1) := by decide +kernel
theorem dX7_tear_13 : decode cX7_tear 13 = .ok (.aload_n 0, 1) := by decide +kernel
theorem dX7_tear_14 : decode cX7_tear 14 = .ok (.iconst 0, 1) := by decide +kernel
theorem dX7_tear_15 : decode cX7_tear 15 = .ok (.putfield 19, 3) := by decide +kernel
theorem dX7_tear_18 : decode cX7_tear 18 = .ok (.iload_n 1, 1) := by decide +kernel
theorem dX7_tear_19 : decode cX7_tear 19 = .ok (.ireturn, 1) := by decide +kernel
theorem dX7_count_0 : decode cX7_count 0 = .ok (.iload_n 1, 1) := by decide +kernel
theorem dX7_count_1 : decode cX7_count 1 = .ok (.tableswitch 132 0 7 #[47, 58, 69, 80, 94, 108, 116, 124], 47) := by decide +kernel
theorem dX7_count_48 : decode cX7_count 48 = .ok (.aload_n 0, 1) := by decide +kernel
theorem dX7_count_49 : decode cX7_count 49 = .ok (.getfield 10, 3) := by decide +kernel
theorem dX7_count_52 : decode cX7_count 52 = .ok (.getfield 70, 3) := by decide +kernel
theorem dX7_count_55 : decode cX7_count 55 = .ok (.getfield 231, 3) := by decide +kernel
theorem dX7_count_58 : decode cX7_count 58 = .ok (.ireturn, 1) := by decide +kernel
theorem dX7_count_59 : decode cX7_count 59 = .ok (.aload_n 0, 1) := by decide +kernel
theorem dX7_count_60 : decode cX7_count 60 = .ok (.getfield 10, 3) := by decide +kernel
theorem dX7_count_63 : decode cX7_count 63 = .ok (.getfield 70, 3) := by decide +kernel
theorem dX7_count_66 : decode cX7_count 66 = .ok (.invokevirtual 302, 3) := by decide +kernel
theorem dX7_count_69 : decode cX7_count 69 = .ok (.ireturn, 1) := by decide +kernel
theorem dX7_count_70 : decode cX7_count 70 = .ok (.aload_n 0, 1) := by decide +kernel
theorem dX7_count_71 : decode cX7_count 71 = .ok (.getfield 10, 3) := by decide +kernel
theorem dX7_count_74 : decode cX7_count 74 = .ok (.getfield 70, 3) := by decide +kernel
theorem dX7_count_77 : decode cX7_count 77 = .ok (.invokevirtual 305, 3) := by decide +kernel
theorem dX7_count_80 : decode cX7_count 80 = .ok (.ireturn, 1) := by decide +kernel
theorem dX7_count_81 : decode cX7_count 81 = .ok (.aload_n 0, 1) := by decide +kernel
theorem dX7_count_82 : decode cX7_count 82 = .ok (.getfield 10, 3) := by decide +kernel
theorem dX7_count_85 : decode cX7_count 85 = .ok (.getfield 70, 3) := by decide +kernel
theorem dX7_count_88 : decode cX7_count 88 = .ok (.getfield 129, 3) := by decide +kernel
theorem dX7_count_91 : decode cX7_count 91 = .ok (.invokestatic 241, 3) := by decide +kernel
theorem dX7_count_94 : decode cX7_count 94 = .ok (.ireturn, 1) := by decide +kernel
theorem dX7_count_95 : decode cX7_count 95 = .ok (.aload_n 0, 1) := by decide +kernel
theorem dX7_count_96 : decode cX7_count 96 = .ok (.getfield 10, 3) := by decide +kernel
theorem dX7_count_99 : decode cX7_count 99 = .ok (.getfield 70, 3) := by decide +kernel
theorem dX7_count_102 : decode cX7_count 102 = .ok (.getfield 132, 3) := by decide +kernel
theorem dX7_count_105 : decode cX7_count 105 = .ok (.invokestatic 241, 3) := by decide +kernel
theorem dX7_count_108 : decode cX7_count 108 = .ok (.ireturn, 1) := by decide +kernel
theorem dX7_count_109 : decode cX7_count 109 = .ok (.aload_n 0, 1) := by decide +kernel
theorem dX7_count_110 : decode cX7_count 110 = .ok (.getfield 40, 3) := by decide +kernel
theorem dX7_count_113 : decode cX7_count 113 = .ok (.getfield 254, 3) := by decide +kernel
theorem dX7_count_116 : decode cX7_count 116 = .ok (.ireturn, 1) := by decide +kernel
theorem dX7_count_117 : decode cX7_count 117 = .ok (.aload_n 0, 1) := by decide +kernel
theorem dX7_count_118 : decode cX7_count 118 = .ok (.getfield 10, 3) := by decide +kernel
theorem dX7_count_121 : decode cX7_count 121 = .ok (.getfield 251, 3) := by decide +kernel
theorem dX7_count_124 : decode cX7_count 124 = .ok (.ireturn, 1) := by decide +kernel
theorem dX7_count_125 : decode cX7_count 125 = .ok (.aload_n 0, 1) := by decide +kernel
theorem dX7_count_126 : decode cX7_count 126 = .ok (.getfield 10, 3) := by decide +kernel
theorem dX7_count_129 : decode cX7_count 129 = .ok (.invokevirtual 308, 3) := by decide +kernel
theorem dX7_count_132 : decode cX7_count 132 = .ok (.ireturn, 1) := by decide +kernel
theorem dX7_count_133 : decode cX7_count 133 = .ok (.aload_n 0, 1) := by decide +kernel
theorem dX7_count_134 : decode cX7_count 134 = .ok (.iconst 0, 1) := by decide +kernel
theorem dX7_count_135 : decode cX7_count 135 = .ok (.invokevirtual 66, 3) := by decide +kernel
theorem dX7_count_138 : decode cX7_count 138 = .ok (.ireturn, 1) := by decide +kernel
theorem dX7_status_0 : decode cX7_status 0 = .ok (.iload_n 1, 1) := by decide +kernel
theorem dX7_status_1 : decode cX7_status 1 = .ok (.iconst (-1), 1) := by decide +kernel
theorem dX7_status_2 : decode cX7_status 2 = .ok (.if_icmp .ne 11, 3) := by decide +kernel
theorem dX7_status_5 : decode cX7_status 5 = .ok (.aload_n 0, 1) := by decide +kernel
theorem dX7_status_6 : decode cX7_status 6 = .ok (.getfield 50, 3) := by decide +kernel
theorem dX7_status_9 : decode cX7_status 9 = .ok (.invokestatic 241, 3) := by decide +kernel
theorem dX7_status_12 : decode cX7_status 12 = .ok (.ireturn, 1) := by decide +kernel
theorem dX7_status_13 : decode cX7_status 13 = .ok (.iload_n 1, 1) := by decide +kernel
theorem dX7_status_14 : decode cX7_status 14 = .ok (.iconst 0, 1) := by decide +kernel
theorem dX7_status_15 : decode cX7_status 15 = .ok (.bipush 6, 2) := by decide +kernel
theorem dX7_status_17 : decode cX7_status 17 = .ok (.invokestatic 62, 3) := by decide +kernel
theorem dX7_status_20 : decode cX7_status 20 = .ok (.ifCond .eq 12, 3) := by decide +kernel
theorem dX7_status_23 : decode cX7_status 23 = .ok (.aload_n 0, 1) := by decide +kernel
theorem dX7_status_24 : decode cX7_status 24 = .ok (.getfield 50, 3) := by decide +kernel
theorem dX7_status_27 : decode cX7_status 27 = .ok (.iload_n 1, 1) := by decide +kernel
theorem dX7_status_28 : decode cX7_status 28 = .ok (.iaload, 1) := by decide +kernel
theorem dX7_status_29 : decode cX7_status 29 = .ok (.goto 8, 3) := by decide +kernel
theorem dX7_status_32 : decode cX7_status 32 = .ok (.aload_n 0, 1) := by decide +kernel
theorem dX7_status_33 : decode cX7_status 33 = .ok (.iconst 0, 1) := by decide +kernel
theorem dX7_status_34 : decode cX7_status 34 = .ok (.invokevirtual 66, 3) := by decide +kernel
theorem dX7_status_37 : decode cX7_status 37 = .ok (.ireturn, 1) := by decide +kernel
theorem dX7_finding_0 : decode cX7_finding 0 = .ok (.iload_n 1, 1) := by decide +kernel
theorem dX7_finding_1 : decode cX7_finding 1 = .ok (.iconst 0, 1) := by decide +kernel
theorem dX7_finding_2 : decode cX7_finding 2 = .ok (.bipush 6, 2) := by decide +kernel
theorem dX7_finding_4 : decode cX7_finding 4 = .ok (.invokestatic 62, 3) := by decide +kernel
theorem dX7_finding_7 : decode cX7_finding 7 = .ok (.ifCond .eq 13, 3) := by decide +kernel
theorem dX7_finding_10 : decode cX7_finding 10 = .ok (.aload_n 0, 1) := by decide +kernel
theorem dX7_finding_11 : decode cX7_finding 11 = .ok (.getfield 50, 3) := by decide +kernel
theorem dX7_finding_14 : decode cX7_finding 14 = .ok (.iload_n 1, 1) := by decide +kernel
theorem dX7_finding_15 : decode cX7_finding 15 = .ok (.dup2, 1) := by decide +kernel
theorem dX7_finding_16 : decode cX7_finding 16 = .ok (.iaload, 1) := by decide +kernel
theorem dX7_finding_17 : decode cX7_finding 17 = .ok (.iconst 1, 1) := by decide +kernel
theorem dX7_finding_18 : decode cX7_finding 18 = .ok (.iadd, 1) := by decide +kernel
theorem dX7_finding_19 : decode cX7_finding 19 = .ok (.iastore, 1) := by decide +kernel
theorem dX7_finding_20 : decode cX7_finding 20 = .ok (.ldc_w 311, 3) := by decide +kernel
theorem dX7_finding_23 : decode cX7_finding 23 = .ok (.iload_n 1, 1) := by decide +kernel
theorem dX7_finding_24 : decode cX7_finding 24 = .ok (.isub, 1) := by decide +kernel
theorem dX7_finding_25 : decode cX7_finding 25 = .ok (.ireturn, 1) := by decide +kernel
theorem dX7_isPastPlanning_0 : decode cX7_isPastPlanning 0 = .ok (.aload_n 0, 1) := by decide +kernel
theorem dX7_isPastPlanning_1 : decode cX7_isPastPlanning 1 = .ok (.getfield 10, 3) := by decide +kernel
theorem dX7_isPastPlanning_4 : decode cX7_isPastPlanning 4 = .ok (.getfield 135, 3) := by decide +kernel
theorem dX7_isPastPlanning_7 : decode cX7_isPastPlanning 7 = .ok (.getfield 163, 3) := by decide +kernel
theorem dX7_isPastPlanning_10 : decode cX7_isPastPlanning 10 = .ok (.sipush 700, 3) := by decide +kernel
theorem dX7_isPastPlanning_13 : decode cX7_isPastPlanning 13 = .ok (.if_icmp .le 7, 3) := by decide +kernel
theorem dX7_isPastPlanning_16 : decode cX7_isPastPlanning 16 = .ok (.iconst 1, 1) := by decide +kernel
theorem dX7_isPastPlanning_17 : decode cX7_isPastPlanning 17 = .ok (.goto 4, 3) := by decide +kernel
theorem dX7_isPastPlanning_20 : decode cX7_isPastPlanning 20 = .ok (.iconst 0, 1) := by decide +kernel
theorem dX7_isPastPlanning_21 : decode cX7_isPastPlanning 21 = .ok (.ireturn, 1) := by decide +kernel
theorem dX7_findWays_0 : decode cX7_findWays 0 = .ok (.iload_n 1, 1) := by decide +kernel
theorem dX7_findWays_1 : decode cX7_findWays 1 = .ok (.invokestatic 59, 3) := by decide +kernel
theorem dX7_findWays_4 : decode cX7_findWays 4 = .ok (.ifCond .ne 9, 3) := by decide +kernel
theorem dX7_findWays_7 : decode cX7_findWays 7 = .ok (.aload_n 0, 1) := by decide +kernel
theorem dX7_findWays_8 : decode cX7_findWays 8 = .ok (.iconst 0, 1) := by decide +kernel
theorem dX7_findWays_9 : decode cX7_findWays 9 = .ok (.invokevirtual 66, 3) := by decide +kernel
theorem dX7_findWays_12 : decode cX7_findWays 12 = .ok (.ireturn, 1) := by decide +kernel
theorem dX7_findWays_13 : decode cX7_findWays 13 = .ok (.aload_n 0, 1) := by decide +kernel
theorem dX7_findWays_14 : decode cX7_findWays 14 = .ok (.invokevirtual 212, 3) := by decide +kernel
theorem dX7_findWays_17 : decode cX7_findWays 17 = .ok (.ifCond .eq 9, 3) := by decide +kernel
theorem dX7_findWays_20 : decode cX7_findWays 20 = .ok (.aload_n 0, 1) := by decide +kernel
theorem dX7_findWays_21 : decode cX7_findWays 21 = .ok (.iconst 4, 1) := by decide +kernel
theorem dX7_findWays_22 : decode cX7_findWays 22 = .ok (.invokevirtual 66, 3) := by decide +kernel
theorem dX7_findWays_25 : decode cX7_findWays 25 = .ok (.ireturn, 1) := by decide +kernel
theorem dX7_findWays_26 : decode cX7_findWays 26 = .ok (.aload_n 0, 1) := by decide +kernel
theorem dX7_findWays_27 : decode cX7_findWays 27 = .ok (.iload_n 1, 1) := by decide +kernel
theorem dX7_findWays_28 : decode cX7_findWays 28 = .ok (.invokevirtual 205, 3) := by decide +kernel
theorem dX7_findWays_31 : decode cX7_findWays 31 = .ok (.aload_n 0, 1) := by decide +kernel
theorem dX7_findWays_32 : decode cX7_findWays 32 = .ok (.getfield 33, 3) := by decide +kernel
theorem dX7_findWays_35 : decode cX7_findWays 35 = .ok (.getfield 209, 3) := by decide +kernel
theorem dX7_findWays_38 : decode cX7_findWays 38 = .ok (.ifCond .ne 11, 3) := by decide +kernel
theorem dX7_findWays_41 : decode cX7_findWays 41 = .ok (.aload_n 0, 1) := by decide +kernel
theorem dX7_findWays_42 : decode cX7_findWays 42 = .ok (.iconst 3, 1) := by decide +kernel
theorem dX7_findWays_43 : decode cX7_findWays 43 = .ok (.invokevirtual 66, 3) := by decide +kernel
theorem dX7_findWays_46 : decode cX7_findWays 46 = .ok (.goto 4, 3) := by decide +kernel
theorem dX7_findWays_49 : decode cX7_findWays 49 = .ok (.iconst 0, 1) := by decide +kernel
theorem dX7_findWays_50 : decode cX7_findWays 50 = .ok (.ireturn, 1) := by decide +kernel
theorem dX7_seekWays_0 : decode cX7_seekWays 0 = .ok (.aload_n 0, 1) := by decide +kernel
theorem dX7_seekWays_1 : decode cX7_seekWays 1 = .ok (.getfield 33, 3) := by decide +kernel
theorem dX7_seekWays_4 : decode cX7_seekWays 4 = .ok (.aload_n 0, 1) := by decide +kernel
theorem dX7_seekWays_5 : decode cX7_seekWays 5 = .ok (.getfield 10, 3) := by decide +kernel
theorem dX7_seekWays_8 : decode cX7_seekWays 8 = .ok (.getfield 70, 3) := by decide +kernel
theorem dX7_seekWays_11 : decode cX7_seekWays 11 = .ok (.aload_n 0, 1) := by decide +kernel
theorem dX7_seekWays_12 : decode cX7_seekWays 12 = .ok (.getfield 10, 3) := by decide +kernel
theorem dX7_seekWays_15 : decode cX7_seekWays 15 = .ok (.getfield 135, 3) := by decide +kernel
theorem dX7_seekWays_18 : decode cX7_seekWays 18 = .ok (.aload_n 0, 1) := by decide +kernel
theorem dX7_seekWays_19 : decode cX7_seekWays 19 = .ok (.getfield 10, 3) := by decide +kernel
theorem dX7_seekWays_22 : decode cX7_seekWays 22 = .ok (.getfield 135, 3) := by decide +kernel
theorem dX7_seekWays_25 : decode cX7_seekWays 25 = .ok (.getfield 139, 3) := by decide +kernel
theorem dX7_seekWays_28 : decode cX7_seekWays 28 = .ok (.iconst (-1), 1) := by decide +kernel
theorem dX7_seekWays_29 : decode cX7_seekWays 29 = .ok (.invokevirtual 219, 3) := by decide +kernel
theorem dX7_seekWays_32 : decode cX7_seekWays 32 = .ok (.aload_n 0, 1) := by decide +kernel
theorem dX7_seekWays_33 : decode cX7_seekWays 33 = .ok (.getfield 33, 3) := by decide +kernel
theorem dX7_seekWays_36 : decode cX7_seekWays 36 = .ok (.iload_n 1, 1) := by decide +kernel
theorem dX7_seekWays_37 : decode cX7_seekWays 37 = .ok (.aload_n 0, 1) := by decide +kernel
theorem dX7_seekWays_38 : decode cX7_seekWays 38 = .ok (.getfield 10, 3) := by decide +kernel
theorem dX7_seekWays_41 : decode cX7_seekWays 41 = .ok (.getfield 135, 3) := by decide +kernel
theorem dX7_seekWays_44 : decode cX7_seekWays 44 = .ok (.getfield 163, 3) := by decide +kernel
theorem dX7_seekWays_47 : decode cX7_seekWays 47 = .ok (.invokevirtual 223, 3) := by decide +kernel
theorem dX7_seekWays_50 : decode cX7_seekWays 50 = .ok (.return_, 1) := by decide +kernel
theorem dX7_seekRounds_0 : decode cX7_seekRounds 0 = .ok (.aload_n 0, 1) := by decide +kernel
theorem dX7_seekRounds_1 : decode cX7_seekRounds 1 = .ok (.getfield 33, 3) := by decide +kernel
theorem dX7_seekRounds_4 : decode cX7_seekRounds 4 = .ok (.aload_n 1, 1) := by decide +kernel
theorem dX7_seekRounds_5 : decode cX7_seekRounds 5 = .ok (.aload_n 0, 1) := by decide +kernel
theorem dX7_seekRounds_6 : decode cX7_seekRounds 6 = .ok (.getfield 10, 3) := by decide +kernel
theorem dX7_seekRounds_9 : decode cX7_seekRounds 9 = .ok (.getfield 135, 3) := by decide +kernel
theorem dX7_seekRounds_12 : decode cX7_seekRounds 12 = .ok (.iload_n 2, 1) := by decide +kernel
theorem dX7_seekRounds_13 : decode cX7_seekRounds 13 = .ok (.iload_n 3, 1) := by decide +kernel
theorem dX7_seekRounds_14 : decode cX7_seekRounds 14 = .ok (.invokevirtual 219, 3) := by decide +kernel
theorem dX7_seekRounds_17 : decode cX7_seekRounds 17 = .ok (.aload_n 0, 1) := by decide +kernel
theorem dX7_seekRounds_18 : decode cX7_seekRounds 18 = .ok (.getfield 33, 3) := by decide +kernel
theorem dX7_seekRounds_21 : decode cX7_seekRounds 21 = .ok (.iconst (-1), 1) := by decide +kernel
theorem dX7_seekRounds_22 : decode cX7_seekRounds 22 = .ok (.aload_n 0, 1) := by decide +kernel
theorem dX7_seekRounds_23 : decode cX7_seekRounds 23 = .ok (.getfield 10, 3) := by decide +kernel
theorem dX7_seekRounds_26 : decode cX7_seekRounds 26 = .ok (.getfield 135, 3) := by decide +kernel
theorem dX7_seekRounds_29 : decode cX7_seekRounds 29 = .ok (.getfield 163, 3) := by decide +kernel
theorem dX7_seekRounds_32 : decode cX7_seekRounds 32 = .ok (.invokevirtual 223, 3) := by decide +kernel
theorem dX7_seekRounds_35 : decode cX7_seekRounds 35 = .ok (.return_, 1) := by decide +kernel
theorem dX7_costsIn_0 : decode cX7_costsIn 0 = .ok (.aload_n 0, 1) := by decide +kernel
theorem dX7_costsIn_1 : decode cX7_costsIn 1 = .ok (.getfield 10, 3) := by decide +kernel
theorem dX7_costsIn_4 : decode cX7_costsIn 4 = .ok (.getfield 135, 3) := by decide +kernel
theorem dX7_costsIn_7 : decode cX7_costsIn 7 = .ok (.invokevirtual 157, 3) := by decide +kernel
theorem dX7_costsIn_10 : decode cX7_costsIn 10 = .ok (.aload_n 1, 1) := by decide +kernel
theorem dX7_costsIn_11 : decode cX7_costsIn 11 = .ok (.iload_n 2, 1) := by decide +kernel
theorem dX7_costsIn_12 : decode cX7_costsIn 12 = .ok (.iload_n 3, 1) := by decide +kernel
theorem dX7_costsIn_13 : decode cX7_costsIn 13 = .ok (.aload_n 0, 1) := by decide +kernel
theorem dX7_costsIn_14 : decode cX7_costsIn 14 = .ok (.getfield 10, 3) := by decide +kernel
theorem dX7_costsIn_17 : decode cX7_costsIn 17 = .ok (.getfield 135, 3) := by decide +kernel
theorem dX7_costsIn_20 : decode cX7_costsIn 20 = .ok (.getfield 139, 3) := by decide +kernel
theorem dX7_costsIn_23 : decode cX7_costsIn 23 = .ok (.invokevirtual 296, 3) := by decide +kernel
theorem dX7_costsIn_26 : decode cX7_costsIn 26 = .ok (.invokestatic 100, 3) := by decide +kernel
theorem dX7_costsIn_29 : decode cX7_costsIn 29 = .ok (.ireturn, 1) := by decide +kernel
theorem dX7_isIn_0 : decode cX7_isIn 0 = .ok (.iload_n 0, 1) := by decide +kernel
theorem dX7_isIn_1 : decode cX7_isIn 1 = .ok (.iload_n 1, 1) := by decide +kernel
theorem dX7_isIn_2 : decode cX7_isIn 2 = .ok (.if_icmp .lt 12, 3) := by decide +kernel
theorem dX7_isIn_5 : decode cX7_isIn 5 = .ok (.iload_n 0, 1) := by decide +kernel
theorem dX7_isIn_6 : decode cX7_isIn 6 = .ok (.iload_n 2, 1) := by decide +kernel
theorem dX7_isIn_7 : decode cX7_isIn 7 = .ok (.if_icmp .gt 7, 3) := by decide +kernel
theorem dX7_isIn_10 : decode cX7_isIn 10 = .ok (.iconst 1, 1) := by decide +kernel
theorem dX7_isIn_11 : decode cX7_isIn 11 = .ok (.goto 4, 3) := by decide +kernel
theorem dX7_isIn_14 : decode cX7_isIn 14 = .ok (.iconst 0, 1) := by decide +kernel
theorem dX7_isIn_15 : decode cX7_isIn 15 = .ok (.ireturn, 1) := by decide +kernel
theorem dX7_isCorner_0 : decode cX7_isCorner 0 = .ok (.iload_n 0, 1) := by decide +kernel
theorem dX7_isCorner_1 : decode cX7_isCorner 1 = .ok (.iconst 0, 1) := by decide +kernel
theorem dX7_isCorner_2 : decode cX7_isCorner 2 = .ok (.bipush 7, 2) := by decide +kernel
theorem dX7_isCorner_4 : decode cX7_isCorner 4 = .ok (.invokestatic 62, 3) := by decide +kernel
theorem dX7_isCorner_7 : decode cX7_isCorner 7 = .ok (.ireturn, 1) := by decide +kernel
theorem dX7_isKind_0 : decode cX7_isKind 0 = .ok (.iload_n 0, 1) := by decide +kernel
theorem dX7_isKind_1 : decode cX7_isKind 1 = .ok (.iconst 0, 1) := by decide +kernel
theorem dX7_isKind_2 : decode cX7_isKind 2 = .ok (.bipush 6, 2) := by decide +kernel
theorem dX7_isKind_4 : decode cX7_isKind 4 = .ok (.invokestatic 62, 3) := by decide +kernel
theorem dX7_isKind_7 : decode cX7_isKind 7 = .ok (.ireturn, 1) := by decide +kernel
theorem dX7_isSheet_0 : decode cX7_isSheet 0 = .ok (.iload_n 0, 1) := by decide +kernel
theorem dX7_isSheet_1 : decode cX7_isSheet 1 = .ok (.iconst 0, 1) := by decide +kernel
theorem dX7_isSheet_2 : decode cX7_isSheet 2 = .ok (.iconst 3, 1) := by decide +kernel
theorem dX7_isSheet_3 : decode cX7_isSheet 3 = .ok (.invokestatic 62, 3) := by decide +kernel
theorem dX7_isSheet_6 : decode cX7_isSheet 6 = .ok (.ireturn, 1) := by decide +kernel
theorem dX7_isInSet_0 : decode cX7_isInSet 0 = .ok (.iload_n 0, 1) := by decide +kernel
theorem dX7_isInSet_1 : decode cX7_isInSet 1 = .ok (.iload_n 1, 1) := by decide +kernel
theorem dX7_isInSet_2 : decode cX7_isInSet 2 = .ok (.iushr, 1) := by decide +kernel
theorem dX7_isInSet_3 : decode cX7_isInSet 3 = .ok (.iconst 1, 1) := by decide +kernel
theorem dX7_isInSet_4 : decode cX7_isInSet 4 = .ok (.iand, 1) := by decide +kernel
theorem dX7_isInSet_5 : decode cX7_isInSet 5 = .ok (.ifCond .eq 7, 3) := by decide +kernel
theorem dX7_isInSet_8 : decode cX7_isInSet 8 = .ok (.iconst 1, 1) := by decide +kernel
theorem dX7_isInSet_9 : decode cX7_isInSet 9 = .ok (.goto 4, 3) := by decide +kernel
theorem dX7_isInSet_12 : decode cX7_isInSet 12 = .ok (.iconst 0, 1) := by decide +kernel
theorem dX7_isInSet_13 : decode cX7_isInSet 13 = .ok (.ireturn, 1) := by decide +kernel
theorem dX7_put_0 : decode cX7_put 0 = .ok (.aload_n 0, 1) := by decide +kernel
theorem dX7_put_1 : decode cX7_put 1 = .ok (.iload_n 1, 1) := by decide +kernel
theorem dX7_put_2 : decode cX7_put 2 = .ok (.iaload, 1) := by decide +kernel
theorem dX7_put_3 : decode cX7_put 3 = .ok (.istore_n 3, 1) := by decide +kernel
theorem dX7_put_4 : decode cX7_put 4 = .ok (.aload_n 0, 1) := by decide +kernel
theorem dX7_put_5 : decode cX7_put 5 = .ok (.iload_n 1, 1) := by decide +kernel
theorem dX7_put_6 : decode cX7_put 6 = .ok (.iload_n 2, 1) := by decide +kernel
theorem dX7_put_7 : decode cX7_put 7 = .ok (.iastore, 1) := by decide +kernel
theorem dX7_put_8 : decode cX7_put 8 = .ok (.iload_n 3, 1) := by decide +kernel
theorem dX7_put_9 : decode cX7_put 9 = .ok (.ireturn, 1) := by decide +kernel
theorem dX7_sumOf_0 : decode cX7_sumOf 0 = .ok (.iconst 0, 1) := by decide +kernel
theorem dX7_sumOf_1 : decode cX7_sumOf 1 = .ok (.istore_n 1, 1) := by decide +kernel
theorem dX7_sumOf_2 : decode cX7_sumOf 2 = .ok (.aload_n 0, 1) := by decide +kernel
theorem dX7_sumOf_3 : decode cX7_sumOf 3 = .ok (.astore_n 2, 1) := by decide +kernel
theorem dX7_sumOf_4 : decode cX7_sumOf 4 = .ok (.aload_n 2, 1) := by decide +kernel
theorem dX7_sumOf_5 : decode cX7_sumOf 5 = .ok (.arraylength, 1) := by decide +kernel
theorem dX7_sumOf_6 : decode cX7_sumOf 6 = .ok (.istore_n 3, 1) := by decide +kernel
theorem dX7_sumOf_7 : decode cX7_sumOf 7 = .ok (.iconst 0, 1) := by decide +kernel
theorem dX7_sumOf_8 : decode cX7_sumOf 8 = .ok (.istore 4, 2) := by decide +kernel
theorem dX7_sumOf_10 : decode cX7_sumOf 10 = .ok (.iload 4, 2) := by decide +kernel
theorem dX7_sumOf_12 : decode cX7_sumOf 12 = .ok (.iload_n 3, 1) := by decide +kernel
theorem dX7_sumOf_13 : decode cX7_sumOf 13 = .ok (.if_icmp .ge 20, 3) := by decide +kernel
theorem dX7_sumOf_16 : decode cX7_sumOf 16 = .ok (.aload_n 2, 1) := by decide +kernel
theorem dX7_sumOf_17 : decode cX7_sumOf 17 = .ok (.iload 4, 2) := by decide +kernel
theorem dX7_sumOf_19 : decode cX7_sumOf 19 = .ok (.iaload, 1) := by decide +kernel
theorem dX7_sumOf_20 : decode cX7_sumOf 20 = .ok (.istore 5, 2) := by decide +kernel
theorem dX7_sumOf_22 : decode cX7_sumOf 22 = .ok (.iload_n 1, 1) := by decide +kernel
theorem dX7_sumOf_23 : decode cX7_sumOf 23 = .ok (.iload 5, 2) := by decide +kernel
theorem dX7_sumOf_25 : decode cX7_sumOf 25 = .ok (.iadd, 1) := by decide +kernel
theorem dX7_sumOf_26 : decode cX7_sumOf 26 = .ok (.istore_n 1, 1) := by decide +kernel
theorem dX7_sumOf_27 : decode cX7_sumOf 27 = .ok (.iinc 4 1, 3) := by decide +kernel
theorem dX7_sumOf_30 : decode cX7_sumOf 30 = .ok (.goto (-20), 3) := by decide +kernel
theorem dX7_sumOf_33 : decode cX7_sumOf 33 = .ok (.iload_n 1, 1) := by decide +kernel
theorem dX7_sumOf_34 : decode cX7_sumOf 34 = .ok (.ireturn, 1) := by decide +kernel
theorem dX8_init_0 : decode cX8_init 0 = .ok (.aload_n 0, 1) := by decide +kernel
theorem dX8_init_1 : decode cX8_init 1 = .ok (.invokespecial 1, 3) := by decide +kernel
theorem dX8_init_4 : decode cX8_init 4 = .ok (.aload_n 0, 1) := by decide +kernel
theorem dX8_init_5 : decode cX8_init 5 = .ok (.bipush 123, 2) := by decide +kernel
theorem dX8_init_7 : decode cX8_init 7 = .ok (.newarray .int, 2) := by decide +kernel
theorem dX8_init_9 : decode cX8_init 9 = .ok (.putfield 9, 3) := by decide +kernel
theorem dX8_init_12 : decode cX8_init 12 = .ok (.aload_n 0, 1) := by decide +kernel
theorem dX8_init_13 : decode cX8_init 13 = .ok (.bipush 123, 2) := by decide +kernel
theorem dX8_init_15 : decode cX8_init 15 = .ok (.newarray .int, 2) := by decide +kernel
theorem dX8_init_17 : decode cX8_init 17 = .ok (.putfield 13, 3) := by decide +kernel
theorem dX8_init_20 : decode cX8_init 20 = .ok (.aload_n 0, 1) := by decide +kernel
theorem dX8_init_21 : decode cX8_init 21 = .ok (.bipush 123, 2) := by decide +kernel
theorem dX8_init_23 : decode cX8_init 23 = .ok (.newarray .int, 2) := by decide +kernel
theorem dX8_init_25 : decode cX8_init 25 = .ok (.putfield 16, 3) := by decide +kernel
theorem dX8_init_28 : decode cX8_init 28 = .ok (.aload_n 0, 1) := by decide +kernel
theorem dX8_init_29 : decode cX8_init 29 = .ok (.bipush 8, 2) := by decide +kernel
theorem dX8_init_31 : decode cX8_init 31 = .ok (.newarray .int, 2) := by decide +kernel
theorem dX8_init_33 : decode cX8_init 33 = .ok (.putfield 19, 3) := by decide +kernel
theorem dX8_init_36 : decode cX8_init 36 = .ok (.aload_n 0, 1) := by decide +kernel
theorem dX8_init_37 : decode cX8_init 37 = .ok (.iconst (-1), 1) := by decide +kernel
theorem dX8_init_38 : decode cX8_init 38 = .ok (.putfield 22, 3) := by decide +kernel
theorem dX8_init_41 : decode cX8_init 41 = .ok (.aload_n 0, 1) := by decide +kernel
theorem dX8_init_42 : decode cX8_init 42 = .ok (.bipush 72, 2) := by decide +kernel
theorem dX8_init_44 : decode cX8_init 44 = .ok (.newarray .int, 2) := by decide +kernel
theorem dX8_init_46 : decode cX8_init 46 = .ok (.putfield 26, 3) := by decide +kernel
theorem dX8_init_49 : decode cX8_init 49 = .ok (.aload_n 0, 1) := by decide +kernel
theorem dX8_init_50 : decode cX8_init 50 = .ok (.bipush 8, 2) := by decide +kernel
theorem dX8_init_52 : decode cX8_init 52 = .ok (.newarray .int, 2) := by decide +kernel
theorem dX8_init_54 : decode cX8_init 54 = .ok (.putfield 29, 3) := by decide +kernel
theorem dX8_init_57 : decode cX8_init 57 = .ok (.aload_n 0, 1) := by decide +kernel
theorem dX8_init_58 : decode cX8_init 58 = .ok (.bipush 8, 2) := by decide +kernel
theorem dX8_init_60 : decode cX8_init 60 = .ok (.newarray .int, 2) := by decide +kernel
theorem dX8_init_62 : decode cX8_init 62 = .ok (.putfield 32, 3) := by decide +kernel
theorem dX8_init_65 : decode cX8_init 65 = .ok (.aload_n 0, 1) := by decide +kernel
theorem dX8_init_66 : decode cX8_init 66 = .ok (.bipush 120, 2) := by decide +kernel
theorem dX8_init_68 : decode cX8_init 68 = .ok (.newarray .int, 2) := by decide +kernel
theorem dX8_init_70 : decode cX8_init 70 = .ok (.putfield 35, 3) := by decide +kernel
theorem dX8_init_73 : decode cX8_init 73 = .ok (.aload_n 0, 1) := by decide +kernel
theorem dX8_init_74 : decode cX8_init 74 = .ok (.bipush 7, 2) := by decide +kernel
theorem dX8_init_76 : decode cX8_init 76 = .ok (.anewarray 38, 3) := by decide +kernel
theorem dX8_init_79 : decode cX8_init 79 = .ok (.dup, 1) := by decide +kernel
theorem dX8_init_80 : decode cX8_init 80 = .ok (.iconst 0, 1) := by decide +kernel
theorem dX8_init_81 : decode cX8_init 81 = .ok (.ldc 40, 2) := by decide +kernel
theorem dX8_init_83 : decode cX8_init 83 = .ok (.aastore, 1) := by decide +kernel
theorem dX8_init_84 : decode cX8_init 84 = .ok (.dup, 1) := by decide +kernel
theorem dX8_init_85 : decode cX8_init 85 = .ok (.iconst 1, 1) := by decide +kernel
theorem dX8_init_86 : decode cX8_init 86 = .ok (.ldc 42, 2) := by decide +kernel
theorem dX8_init_88 : decode cX8_init 88 = .ok (.aastore, 1) := by decide +kernel
theorem dX8_init_89 : decode cX8_init 89 = .ok (.dup, 1) := by decide +kernel
theorem dX8_init_90 : decode cX8_init 90 = .ok (.iconst 2, 1) := by decide +kernel
theorem dX8_init_91 : decode cX8_init 91 = .ok (.ldc 44, 2) := by decide +kernel
theorem dX8_init_93 : decode cX8_init 93 = .ok (.aastore, 1) := by decide +kernel
theorem dX8_init_94 : decode cX8_init 94 = .ok (.dup, 1) := by decide +kernel
theorem dX8_init_95 : decode cX8_init 95 = .ok (.iconst 3, 1) := by decide +kernel
theorem dX8_init_96 : decode cX8_init 96 = .ok (.ldc 46, 2) := by decide +kernel
theorem dX8_init_98 : decode cX8_init 98 = .ok (.aastore, 1) := by decide +kernel
theorem dX8_init_99 : decode cX8_init 99 = .ok (.dup, 1) := by decide +kernel
theorem dX8_init_100 : decode cX8_init 100 = .ok (.iconst 4, 1) := by decide +kernel
theorem dX8_init_101 : decode cX8_init 101 = .ok (.ldc 48, 2) := by decide +kernel
theorem dX8_init_103 : decode cX8_init 103 = .ok (.aastore, 1) := by decide +kernel
theorem dX8_init_104 : decode cX8_init 104 = .ok (.dup, 1) := by decide +kernel
theorem dX8_init_105 : decode cX8_init 105 = .ok (.iconst 5, 1) := by decide +kernel
theorem dX8_init_106 : decode cX8_init 106 = .ok (.ldc 50, 2) := by decide +kernel
theorem dX8_init_108 : decode cX8_init 108 = .ok (.aastore, 1) := by decide +kernel
theorem dX8_init_109 : decode cX8_init 109 = .ok (.dup, 1) := by decide +kernel
theorem dX8_init_110 : decode cX8_init 110 = .ok (.bipush 6, 2) := by decide +kernel
theorem dX8_init_112 : decode cX8_init 112 = .ok (.ldc 52, 2) := by decide +kernel
theorem dX8_init_114 : decode cX8_init 114 = .ok (.aastore, 1) := by decide +kernel
theorem dX8_init_115 : decode cX8_init 115 = .ok (.putfield 54, 3) := by decide +kernel
theorem dX8_init_118 : decode cX8_init 118 = .ok (.aload_n 0, 1) := by decide +kernel
theorem dX8_init_119 : decode cX8_init 119 = .ok (.sipush 1200, 3) := by decide +kernel
theorem dX8_init_122 : decode cX8_init 122 = .ok (.newarray .int, 2) := by decide +kernel
theorem dX8_init_124 : decode cX8_init 124 = .ok (.putfield 58, 3) := by decide +kernel
theorem dX8_init_127 : decode cX8_init 127 = .ok (.aload_n 0, 1) := by decide +kernel
theorem dX8_init_128 : decode cX8_init 128 = .ok (.iconst 4, 1) := by decide +kernel
theorem dX8_init_129 : decode cX8_init 129 = .ok (.newarray .int, 2) := by decide +kernel
theorem dX8_init_131 : decode cX8_init 131 = .ok (.putfield 61, 3) := by decide +kernel
theorem dX8_init_134 : decode cX8_init 134 = .ok (.aload_n 0, 1) := by decide +kernel
theorem dX8_init_135 : decode cX8_init 135 = .ok (.iconst 4, 1) := by decide +kernel
theorem dX8_init_136 : decode cX8_init 136 = .ok (.newarray .int, 2) := by decide +kernel
theorem dX8_init_138 : decode cX8_init 138 = .ok (.putfield 64, 3) := by decide +kernel
theorem dX8_init_141 : decode cX8_init 141 = .ok (.aload_n 0, 1) := by decide +kernel
theorem dX8_init_142 : decode cX8_init 142 = .ok (.sipush 160, 3) := by decide +kernel
theorem dX8_init_145 : decode cX8_init 145 = .ok (.newarray .int, 2) := by decide +kernel
theorem dX8_init_147 : decode cX8_init 147 = .ok (.putfield 67, 3) := by decide +kernel
theorem dX8_init_150 : decode cX8_init 150 = .ok (.aload_n 0, 1) := by decide +kernel
theorem dX8_init_151 : decode cX8_init 151 = .ok (.bipush 40, 2) := by decide +kernel
theorem dX8_init_153 : decode cX8_init 153 = .ok (.newarray .int, 2) := by decide +kernel
theorem dX8_init_155 : decode cX8_init 155 = .ok (.putfield 70, 3) := by decide +kernel
theorem dX8_init_158 : decode cX8_init 158 = .ok (.iconst 0, 1) := by decide +kernel
theorem dX8_init_159 : decode cX8_init 159 = .ok (.istore_n 1, 1) := by decide +kernel
theorem dX8_init_160 : decode cX8_init 160 = .ok (.iload_n 1, 1) := by decide +kernel
theorem dX8_init_161 : decode cX8_init 161 = .ok (.bipush 8, 2) := by decide +kernel
theorem dX8_init_163 : decode cX8_init 163 = .ok (.if_icmp .ge 20, 3) := by decide +kernel
theorem dX8_init_166 : decode cX8_init 166 = .ok (.aload_n 0, 1) := by decide +kernel
theorem dX8_init_167 : decode cX8_init 167 = .ok (.getfield 9, 3) := by decide +kernel
theorem dX8_init_170 : decode cX8_init 170 = .ok (.iconst 0, 1) := by decide +kernel
theorem dX8_init_171 : decode cX8_init 171 = .ok (.iload_n 1, 1) := by decide +kernel
theorem dX8_init_172 : decode cX8_init 172 = .ok (.iadd, 1) := by decide +kernel
theorem dX8_init_173 : decode cX8_init 173 = .ok (.iload_n 1, 1) := by decide +kernel
theorem dX8_init_174 : decode cX8_init 174 = .ok (.iconst 4, 1) := by decide +kernel
theorem dX8_init_175 : decode cX8_init 175 = .ok (.irem, 1) := by decide +kernel
theorem dX8_init_176 : decode cX8_init 176 = .ok (.iastore, 1) := by decide +kernel
theorem dX8_init_177 : decode cX8_init 177 = .ok (.iinc 1 1, 3) := by decide +kernel
theorem dX8_init_180 : decode cX8_init 180 = .ok (.goto (-20), 3) := by decide +kernel
theorem dX8_init_183 : decode cX8_init 183 = .ok (.iconst 0, 1) := by decide +kernel
theorem dX8_init_184 : decode cX8_init 184 = .ok (.istore_n 1, 1) := by decide +kernel
theorem dX8_init_185 : decode cX8_init 185 = .ok (.iload_n 1, 1) := by decide +kernel
theorem dX8_init_186 : decode cX8_init 186 = .ok (.bipush 12, 2) := by decide +kernel
theorem dX8_init_188 : decode cX8_init 188 = .ok (.if_icmp .ge 19, 3) := by decide +kernel
theorem dX8_init_191 : decode cX8_init 191 = .ok (.aload_n 0, 1) := by decide +kernel
theorem dX8_init_192 : decode cX8_init 192 = .ok (.getfield 9, 3) := by decide +kernel
theorem dX8_init_195 : decode cX8_init 195 = .ok (.bipush 20, 2) := by decide +kernel
theorem dX8_init_197 : decode cX8_init 197 = .ok (.iload_n 1, 1) := by decide +kernel
theorem dX8_init_198 : decode cX8_init 198 = .ok (.iadd, 1) := by decide +kernel
theorem dX8_init_199 : decode cX8_init 199 = .ok (.iconst 3, 1) := by decide +kernel
theorem dX8_init_200 : decode cX8_init 200 = .ok (.iastore, 1) := by decide +kernel
theorem dX8_init_201 : decode cX8_init 201 = .ok (.iinc 1 1, 3) := by decide +kernel
theorem dX8_init_204 : decode cX8_init 204 = .ok (.goto (-19), 3) := by decide +kernel
theorem dX8_init_207 : decode cX8_init 207 = .ok (.aload_n 0, 1) := by decide +kernel
theorem dX8_init_208 : decode cX8_init 208 = .ok (.getfield 9, 3) := by decide +kernel
theorem dX8_init_211 : decode cX8_init 211 = .ok (.bipush 45, 2) := by decide +kernel
theorem dX8_init_213 : decode cX8_init 213 = .ok (.bipush 100, 2) := by decide +kernel
theorem dX8_init_215 : decode cX8_init 215 = .ok (.iastore, 1) := by decide +kernel
theorem dX8_init_216 : decode cX8_init 216 = .ok (.aload_n 0, 1) := by decide +kernel
theorem dX8_init_217 : decode cX8_init 217 = .ok (.getfield 9, 3) := by decide +kernel
theorem dX8_init_220 : decode cX8_init 220 = .ok (.bipush 46, 2) := by decide +kernel
theorem dX8_init_222 : decode cX8_init 222 = .ok (.sipush 200, 3) := by decide +kernel
theorem dX8_init_225 : decode cX8_init 225 = .ok (.iastore, 1) := by decide +kernel
theorem dX8_init_226 : decode cX8_init 226 = .ok (.aload_n 0, 1) := by decide +kernel
theorem dX8_init_227 : decode cX8_init 227 = .ok (.getfield 9, 3) := by decide +kernel
theorem dX8_init_230 : decode cX8_init 230 = .ok (.bipush 47, 2) := by decide +kernel
theorem dX8_init_232 : decode cX8_init 232 = .ok (.sipush 200, 3) := by decide +kernel
theorem dX8_init_235 : decode cX8_init 235 = .ok (.iastore, 1) := by decide +kernel
theorem dX8_init_236 : decode cX8_init 236 = .ok (.aload_n 0, 1) := by decide +kernel
theorem dX8_init_237 : decode cX8_init 237 = .ok (.getfield 9, 3) := by decide +kernel
theorem dX8_init_240 : decode cX8_init 240 = .ok (.bipush 48, 2) := by decide +kernel
theorem dX8_init_242 : decode cX8_init 242 = .ok (.sipush 500, 3) := by decide +kernel
theorem dX8_init_245 : decode cX8_init 245 = .ok (.iastore, 1) := by decide +kernel
theorem dX8_init_246 : decode cX8_init 246 = .ok (.aload_n 0, 1) := by decide +kernel
theorem dX8_init_247 : decode cX8_init 247 = .ok (.getfield 9, 3) := by decide +kernel
theorem dX8_init_250 : decode cX8_init 250 = .ok (.bipush 9, 2) := by decide +kernel
theorem dX8_init_252 : decode cX8_init 252 = .ok (.iconst 1, 1) := by decide +kernel
theorem dX8_init_253 : decode cX8_init 253 = .ok (.iastore, 1) := by decide +kernel
theorem dX8_init_254 : decode cX8_init 254 = .ok (.iconst 0, 1) := by decide +kernel
theorem dX8_init_255 : decode cX8_init 255 = .ok (.istore_n 1, 1) := by decide +kernel
theorem dX8_init_256 : decode cX8_init 256 = .ok (.iload_n 1, 1) := by decide +kernel
theorem dX8_init_257 : decode cX8_init 257 = .ok (.bipush 10, 2) := by decide +kernel
theorem dX8_init_259 : decode cX8_init 259 = .ok (.if_icmp .ge 19, 3) := by decide +kernel
theorem dX8_init_262 : decode cX8_init 262 = .ok (.aload_n 0, 1) := by decide +kernel
theorem dX8_init_263 : decode cX8_init 263 = .ok (.getfield 9, 3) := by decide +kernel
theorem dX8_init_266 : decode cX8_init 266 = .ok (.bipush 10, 2) := by decide +kernel
theorem dX8_init_268 : decode cX8_init 268 = .ok (.iload_n 1, 1) := by decide +kernel
theorem dX8_init_269 : decode cX8_init 269 = .ok (.iadd, 1) := by decide +kernel
theorem dX8_init_270 : decode cX8_init 270 = .ok (.iconst (-1), 1) := by decide +kernel
theorem dX8_init_271 : decode cX8_init 271 = .ok (.iastore, 1) := by decide +kernel
theorem dX8_init_272 : decode cX8_init 272 = .ok (.iinc 1 1, 3) := by decide +kernel
theorem dX8_init_275 : decode cX8_init 275 = .ok (.goto (-19), 3) := by decide +kernel
theorem dX8_init_278 : decode cX8_init 278 = .ok (.return_, 1) := by decide +kernel
theorem dX8_finding_0 : decode cX8_finding 0 = .ok (.aload_n 0, 1) := by decide +kernel
theorem dX8_finding_1 : decode cX8_finding 1 = .ok (.getfield 19, 3) := by decide +kernel
theorem dX8_finding_4 : decode cX8_finding 4 = .ok (.ldc 73, 2) := by decide +kernel
theorem dX8_finding_6 : decode cX8_finding 6 = .ok (.iload_n 1, 1) := by decide +kernel
theorem dX8_finding_7 : decode cX8_finding 7 = .ok (.isub, 1) := by decide +kernel
theorem dX8_finding_8 : decode cX8_finding 8 = .ok (.iconst 1, 1) := by decide +kernel
theorem dX8_finding_9 : decode cX8_finding 9 = .ok (.iadd, 1) := by decide +kernel
theorem dX8_finding_10 : decode cX8_finding 10 = .ok (.dup2, 1) := by decide +kernel
theorem dX8_finding_11 : decode cX8_finding 11 = .ok (.iaload, 1) := by decide +kernel
theorem dX8_finding_12 : decode cX8_finding 12 = .ok (.iconst 1, 1) := by decide +kernel
theorem dX8_finding_13 : decode cX8_finding 13 = .ok (.iadd, 1) := by decide +kernel
theorem dX8_finding_14 : decode cX8_finding 14 = .ok (.iastore, 1) := by decide +kernel
theorem dX8_finding_15 : decode cX8_finding 15 = .ok (.aload_n 0, 1) := by decide +kernel
theorem dX8_finding_16 : decode cX8_finding 16 = .ok (.getfield 19, 3) := by decide +kernel
theorem dX8_finding_19 : decode cX8_finding 19 = .ok (.iconst 0, 1) := by decide +kernel
theorem dX8_finding_20 : decode cX8_finding 20 = .ok (.dup2, 1) := by decide +kernel
theorem dX8_finding_21 : decode cX8_finding 21 = .ok (.iaload, 1) := by decide +kernel
theorem dX8_finding_22 : decode cX8_finding 22 = .ok (.iconst 1, 1) := by decide +kernel
theorem dX8_finding_23 : decode cX8_finding 23 = .ok (.iadd, 1) := by decide +kernel
theorem dX8_finding_24 : decode cX8_finding 24 = .ok (.iastore, 1) := by decide +kernel
theorem dX8_finding_25 : decode cX8_finding 25 = .ok (.iload_n 1, 1) := by decide +kernel
theorem dX8_finding_26 : decode cX8_finding 26 = .ok (.ireturn, 1) := by decide +kernel
theorem dX8_within_0 : decode cX8_within 0 = .ok (.iload_n 0, 1) := by decide +kernel
theorem dX8_within_1 : decode cX8_within 1 = .ok (.iload_n 1, 1) := by decide +kernel
theorem dX8_within_2 : decode cX8_within 2 = .ok (.if_icmp .lt 12, 3) := by decide +kernel
theorem dX8_within_5 : decode cX8_within 5 = .ok (.iload_n 0, 1) := by decide +kernel
theorem dX8_within_6 : decode cX8_within 6 = .ok (.iload_n 2, 1) := by decide +kernel
theorem dX8_within_7 : decode cX8_within 7 = .ok (.if_icmp .gt 7, 3) := by decide +kernel
theorem dX8_within_10 : decode cX8_within 10 = .ok (.iconst 1, 1) := by decide +kernel
theorem dX8_within_11 : decode cX8_within 11 = .ok (.goto 4, 3) := by decide +kernel
theorem dX8_within_14 : decode cX8_within 14 = .ok (.iconst 0, 1) := by decide +kernel
theorem dX8_within_15 : decode cX8_within 15 = .ok (.ireturn, 1) := by decide +kernel
theorem dX8_become_0 : decode cX8_become 0 = .ok (.aload_n 0, 1) := by decide +kernel
theorem dX8_become_1 : decode cX8_become 1 = .ok (.getfield 9, 3) := by decide +kernel
theorem dX8_become_4 : decode cX8_become 4 = .ok (.iload_n 1, 1) := by decide +kernel
theorem dX8_become_5 : decode cX8_become 5 = .ok (.iaload, 1) := by decide +kernel
theorem dX8_become_6 : decode cX8_become 6 = .ok (.istore_n 3, 1) := by decide +kernel
theorem dX8_become_7 : decode cX8_become 7 = .ok (.aload_n 0, 1) := by decide +kernel
theorem dX8_become_8 : decode cX8_become 8 = .ok (.getfield 9, 3) := by decide +kernel
theorem dX8_become_11 : decode cX8_become 11 = .ok (.iload_n 1, 1) := by decide +kernel
theorem dX8_become_12 : decode cX8_become 12 = .ok (.iload_n 2, 1) := by decide +kernel
theorem dX8_become_13 : decode cX8_become 13 = .ok (.iastore, 1) := by decide +kernel
theorem dX8_become_14 : decode cX8_become 14 = .ok (.iload_n 3, 1) := by decide +kernel
theorem dX8_become_15 : decode cX8_become 15 = .ok (.ireturn, 1) := by decide +kernel
theorem dX8_copyRow_0 : decode cX8_copyRow 0 = .ok (.iconst 0, 1) := by decide +kernel
theorem dX8_copyRow_1 : decode cX8_copyRow 1 = .ok (.istore_n 2, 1) := by decide +kernel
theorem dX8_copyRow_2 : decode cX8_copyRow 2 = .ok (.iload_n 2, 1) := by decide +kernel
theorem dX8_copyRow_3 : decode cX8_copyRow 3 = .ok (.bipush 123, 2) := by decide +kernel
theorem dX8_copyRow_5 : decode cX8_copyRow 5 = .ok (.if_icmp .ge 15, 3) := by decide +kernel
theorem dX8_copyRow_8 : decode cX8_copyRow 8 = .ok (.aload_n 1, 1) := by decide +kernel
theorem dX8_copyRow_9 : decode cX8_copyRow 9 = .ok (.iload_n 2, 1) := by decide +kernel
theorem dX8_copyRow_10 : decode cX8_copyRow 10 = .ok (.aload_n 0, 1) := by decide +kernel
theorem dX8_copyRow_11 : decode cX8_copyRow 11 = .ok (.iload_n 2, 1) := by decide +kernel
theorem dX8_copyRow_12 : decode cX8_copyRow 12 = .ok (.iaload, 1) := by decide +kernel
theorem dX8_copyRow_13 : decode cX8_copyRow 13 = .ok (.iastore, 1) := by decide +kernel
theorem dX8_copyRow_14 : decode cX8_copyRow 14 = .ok (.iinc 2 1, 3) := by decide +kernel
theorem dX8_copyRow_17 : decode cX8_copyRow 17 = .ok (.goto (-15), 3) := by decide +kernel
theorem dX8_copyRow_20 : decode cX8_copyRow 20 = .ok (.return_, 1) := by decide +kernel
theorem dX8_putBack_0 : decode cX8_putBack 0 = .ok (.aload_n 0, 1) := by decide +kernel
theorem dX8_putBack_1 : decode cX8_putBack 1 = .ok (.getfield 16, 3) := by decide +kernel
theorem dX8_putBack_4 : decode cX8_putBack 4 = .ok (.aload_n 0, 1) := by decide +kernel
theorem dX8_putBack_5 : decode cX8_putBack 5 = .ok (.getfield 9, 3) := by decide +kernel
theorem dX8_putBack_8 : decode cX8_putBack 8 = .ok (.invokestatic 74, 3) := by decide +kernel
theorem dX8_putBack_11 : decode cX8_putBack 11 = .ok (.iload_n 1, 1) := by decide +kernel
theorem dX8_putBack_12 : decode cX8_putBack 12 = .ok (.ireturn, 1) := by decide +kernel
theorem dX8_has_0 : decode cX8_has 0 = .ok (.iload_n 0, 1) := by decide +kernel
theorem dX8_has_1 : decode cX8_has 1 = .ok (.iload_n 1, 1) := by decide +kernel
theorem dX8_has_2 : decode cX8_has 2 = .ok (.ishr, 1) := by decide +kernel
theorem dX8_has_3 : decode cX8_has 3 = .ok (.iconst 1, 1) := by decide +kernel
theorem dX8_has_4 : decode cX8_has 4 = .ok (.iand, 1) := by decide +kernel
theorem dX8_has_5 : decode cX8_has 5 = .ok (.iconst 1, 1) := by decide +kernel
theorem dX8_has_6 : decode cX8_has 6 = .ok (.if_icmp .ne 7, 3) := by decide +kernel
theorem dX8_has_9 : decode cX8_has 9 = .ok (.iconst 1, 1) := by decide +kernel
theorem dX8_has_10 : decode cX8_has 10 = .ok (.goto 4, 3) := by decide +kernel
theorem dX8_has_13 : decode cX8_has 13 = .ok (.iconst 0, 1) := by decide +kernel
theorem dX8_has_14 : decode cX8_has 14 = .ok (.ireturn, 1) := by decide +kernel
theorem dX8_bits_0 : decode cX8_bits 0 = .ok (.iconst 0, 1) := by decide +kernel
theorem dX8_bits_1 : decode cX8_bits 1 = .ok (.istore_n 1, 1) := by decide +kernel
theorem dX8_bits_2 : decode cX8_bits 2 = .ok (.iload_n 0, 1) := by decide +kernel
theorem dX8_bits_3 : decode cX8_bits 3 = .ok (.istore_n 2, 1) := by decide +kernel
theorem dX8_bits_4 : decode cX8_bits 4 = .ok (.iload_n 2, 1) := by decide +kernel
theorem dX8_bits_5 : decode cX8_bits 5 = .ok (.ifCond .eq 15, 3) := by decide +kernel
theorem dX8_bits_8 : decode cX8_bits 8 = .ok (.iinc 1 1, 3) := by decide +kernel
theorem dX8_bits_11 : decode cX8_bits 11 = .ok (.iload_n 2, 1) := by decide +kernel
theorem dX8_bits_12 : decode cX8_bits 12 = .ok (.iload_n 2, 1) := by decide +kernel
theorem dX8_bits_13 : decode cX8_bits 13 = .ok (.iconst 1, 1) := by decide +kernel
theorem dX8_bits_14 : decode cX8_bits 14 = .ok (.isub, 1) := by decide +kernel
theorem dX8_bits_15 : decode cX8_bits 15 = .ok (.iand, 1) := by decide +kernel
theorem dX8_bits_16 : decode cX8_bits 16 = .ok (.istore_n 2, 1) := by decide +kernel
theorem dX8_bits_17 : decode cX8_bits 17 = .ok (.goto (-13), 3) := by decide +kernel
theorem dX8_bits_20 : decode cX8_bits 20 = .ok (.iload_n 1, 1) := by decide +kernel
theorem dX8_bits_21 : decode cX8_bits 21 = .ok (.ireturn, 1) := by decide +kernel
theorem dX8_isCorner_0 : decode cX8_isCorner 0 = .ok (.iload_n 0, 1) := by decide +kernel
theorem dX8_isCorner_1 : decode cX8_isCorner 1 = .ok (.iconst 0, 1) := by decide +kernel
theorem dX8_isCorner_2 : decode cX8_isCorner 2 = .ok (.bipush 7, 2) := by decide +kernel
theorem dX8_isCorner_4 : decode cX8_isCorner 4 = .ok (.invokestatic 78, 3) := by decide +kernel
theorem dX8_isCorner_7 : decode cX8_isCorner 7 = .ok (.ireturn, 1) := by decide +kernel
theorem dX8_isStreet_0 : decode cX8_isStreet 0 = .ok (.iload_n 1, 1) := by decide +kernel
theorem dX8_isStreet_1 : decode cX8_isStreet 1 = .ok (.iconst 0, 1) := by decide +kernel
theorem dX8_isStreet_2 : decode cX8_isStreet 2 = .ok (.aload_n 0, 1) := by decide +kernel
theorem dX8_isStreet_3 : decode cX8_isStreet 3 = .ok (.getfield 9, 3) := by decide +kernel
theorem dX8_isStreet_6 : decode cX8_isStreet 6 = .ok (.bipush 8, 2) := by decide +kernel
theorem dX8_isStreet_8 : decode cX8_isStreet 8 = .ok (.iaload, 1) := by decide +kernel
theorem dX8_isStreet_9 : decode cX8_isStreet 9 = .ok (.iconst 1, 1) := by decide +kernel
theorem dX8_isStreet_10 : decode cX8_isStreet 10 = .ok (.isub, 1) := by decide +kernel
theorem dX8_isStreet_11 : decode cX8_isStreet 11 = .ok (.invokestatic 78, 3) := by decide +kernel
theorem dX8_isStreet_14 : decode cX8_isStreet 14 = .ok (.ireturn, 1) := by decide +kernel
theorem dX8_isKind_0 : decode cX8_isKind 0 = .ok (.iload_n 0, 1) := by decide +kernel
theorem dX8_isKind_1 : decode cX8_isKind 1 = .ok (.iconst 0, 1) := by decide +kernel
theorem dX8_isKind_2 : decode cX8_isKind 2 = .ok (.bipush 6, 2) := by decide +kernel
theorem dX8_isKind_4 : decode cX8_isKind 4 = .ok (.invokestatic 78, 3) := by decide +kernel
theorem dX8_isKind_7 : decode cX8_isKind 7 = .ok (.ireturn, 1) := by decide +kernel
theorem dX8_at_0 : decode cX8_at 0 = .ok (.bipush 53, 2) := by decide +kernel
theorem dX8_at_2 : decode cX8_at 2 = .ok (.iconst 5, 1) := by decide +kernel
theorem dX8_at_3 : decode cX8_at 3 = .ok (.iload_n 0, 1) := by decide +kernel
theorem dX8_at_4 : decode cX8_at 4 = .ok (.imul, 1) := by decide +kernel
theorem dX8_at_5 : decode cX8_at 5 = .ok (.iadd, 1) := by decide +kernel
theorem dX8_at_6 : decode cX8_at 6 = .ok (.iload_n 1, 1) := by decide +kernel
theorem dX8_at_7 : decode cX8_at 7 = .ok (.iadd, 1) := by decide +kernel
theorem dX8_at_8 : decode cX8_at 8 = .ok (.ireturn, 1) := by decide +kernel
theorem dX8_streetIs_0 : decode cX8_streetIs 0 = .ok (.aload_n 0, 1) := by decide +kernel
theorem dX8_streetIs_1 : decode cX8_streetIs 1 = .ok (.getfield 9, 3) := by decide +kernel
theorem dX8_streetIs_4 : decode cX8_streetIs 4 = .ok (.iload_n 1, 1) := by decide +kernel
theorem dX8_streetIs_5 : decode cX8_streetIs 5 = .ok (.iload_n 2, 1) := by decide +kernel
theorem dX8_streetIs_6 : decode cX8_streetIs 6 = .ok (.invokestatic 82, 3) := by decide +kernel
theorem dX8_streetIs_9 : decode cX8_streetIs 9 = .ok (.iaload, 1) := by decide +kernel
theorem dX8_streetIs_10 : decode cX8_streetIs 10 = .ok (.ireturn, 1) := by decide +kernel
theorem dX8_comes_0 : decode cX8_comes 0 = .ok (.aload_n 0, 1) := by decide +kernel
theorem dX8_comes_1 : decode cX8_comes 1 = .ok (.getfield 9, 3) := by decide +kernel
theorem dX8_comes_4 : decode cX8_comes 4 = .ok (.bipush 8, 2) := by decide +kernel
theorem dX8_comes_6 : decode cX8_comes 6 = .ok (.iaload, 1) := by decide +kernel
theorem dX8_comes_7 : decode cX8_comes 7 = .ok (.istore 6, 2) := by decide +kernel
theorem dX8_comes_9 : decode cX8_comes 9 = .ok (.aload_n 0, 1) := by decide +kernel
theorem dX8_comes_10 : decode cX8_comes 10 = .ok (.getfield 9, 3) := by decide +kernel
theorem dX8_comes_13 : decode cX8_comes 13 = .ok (.iload 6, 2) := by decide +kernel
theorem dX8_comes_15 : decode cX8_comes 15 = .ok (.iconst 0, 1) := by decide +kernel
theorem dX8_comes_16 : decode cX8_comes 16 = .ok (.invokestatic 82, 3) := by decide +kernel
theorem dX8_comes_19 : decode cX8_comes 19 = .ok (.iload_n 1, 1) := by decide +kernel
theorem dX8_comes_20 : decode cX8_comes 20 = .ok (.iastore, 1) := by decide +kernel
theorem dX8_comes_21 : decode cX8_comes 21 = .ok (.aload_n 0, 1) := by decide +kernel
theorem dX8_comes_22 : decode cX8_comes 22 = .ok (.getfield 9, 3) := by decide +kernel
theorem dX8_comes_25 : decode cX8_comes 25 = .ok (.iload 6, 2) := by decide +kernel
theorem dX8_comes_27 : decode cX8_comes 27 = .ok (.iconst 1, 1) := by decide +kernel
theorem dX8_comes_28 : decode cX8_comes 28 = .ok (.invokestatic 82, 3) := by decide +kernel
theorem dX8_comes_31 : decode cX8_comes 31 = .ok (.iload_n 2, 1) := by decide +kernel
theorem dX8_comes_32 : decode cX8_comes 32 = .ok (.iload_n 3, 1) := by decide +kernel
theorem dX8_comes_33 : decode cX8_comes 33 = .ok (.invokestatic 86, 3) := by decide +kernel
theorem dX8_comes_36 : decode cX8_comes 36 = .ok (.iastore, 1) := by decide +kernel
theorem dX8_comes_37 : decode cX8_comes 37 = .ok (.aload_n 0, 1) := by decide +kernel
theorem dX8_comes_38 : decode cX8_comes 38 = .ok (.getfield 9, 3) := by decide +kernel
theorem dX8_comes_41 : decode cX8_comes 41 = .ok (.iload 6, 2) := by decide +kernel
theorem dX8_comes_43 : decode cX8_comes 43 = .ok (.iconst 2, 1) := by decide +kernel
theorem dX8_comes_44 : decode cX8_comes 44 = .ok (.invokestatic 82, 3) := by decide +kernel
theorem dX8_comes_47 : decode cX8_comes 47 = .ok (.iload_n 2, 1) := by decide +kernel
theorem dX8_comes_48 : decode cX8_comes 48 = .ok (.iload_n 3, 1) := by decide +kernel
theorem dX8_comes_49 : decode cX8_comes 49 = .ok (.invokestatic 91, 3) := by decide +kernel
theorem dX8_comes_52 : decode cX8_comes 52 = .ok (.iastore, 1) := by decide +kernel
theorem dX8_comes_53 : decode cX8_comes 53 = .ok (.aload_n 0, 1) := by decide +kernel
theorem dX8_comes_54 : decode cX8_comes 54 = .ok (.getfield 9, 3) := by decide +kernel
theorem dX8_comes_57 : decode cX8_comes 57 = .ok (.iload 6, 2) := by decide +kernel
theorem dX8_comes_59 : decode cX8_comes 59 = .ok (.iconst 3, 1) := by decide +kernel
theorem dX8_comes_60 : decode cX8_comes 60 = .ok (.invokestatic 82, 3) := by decide +kernel
theorem dX8_comes_63 : decode cX8_comes 63 = .ok (.iload 4, 2) := by decide +kernel
theorem dX8_comes_65 : decode cX8_comes 65 = .ok (.iastore, 1) := by decide +kernel
theorem dX8_comes_66 : decode cX8_comes 66 = .ok (.aload_n 0, 1) := by decide +kernel
theorem dX8_comes_67 : decode cX8_comes 67 = .ok (.getfield 9, 3) := by decide +kernel
theorem dX8_comes_70 : decode cX8_comes 70 = .ok (.iload 6, 2) := by decide +kernel
theorem dX8_comes_72 : decode cX8_comes 72 = .ok (.iconst 4, 1) := by decide +kernel
theorem dX8_comes_73 : decode cX8_comes 73 = .ok (.invokestatic 82, 3) := by decide +kernel
theorem dX8_comes_76 : decode cX8_comes 76 = .ok (.iload 5, 2) := by decide +kernel
theorem dX8_comes_78 : decode cX8_comes 78 = .ok (.iastore, 1) := by decide +kernel
theorem dX8_comes_79 : decode cX8_comes 79 = .ok (.aload_n 0, 1) := by decide +kernel
theorem dX8_comes_80 : decode cX8_comes 80 = .ok (.getfield 9, 3) := by decide +kernel
theorem dX8_comes_83 : decode cX8_comes 83 = .ok (.bipush 8, 2) := by decide +kernel
theorem dX8_comes_85 : decode cX8_comes 85 = .ok (.dup2, 1) := by decide +kernel
theorem dX8_comes_86 : decode cX8_comes 86 = .ok (.iaload, 1) := by decide +kernel
theorem dX8_comes_87 : decode cX8_comes 87 = .ok (.iconst 1, 1) := by decide +kernel
theorem dX8_comes_88 : decode cX8_comes 88 = .ok (.iadd, 1) := by decide +kernel
theorem dX8_comes_89 : decode cX8_comes 89 = .ok (.iastore, 1) := by decide +kernel
theorem dX8_comes_90 : decode cX8_comes 90 = .ok (.iload 6, 2) := by decide +kernel
theorem dX8_comes_92 : decode cX8_comes 92 = .ok (.ireturn, 1) := by decide +kernel
theorem dX8_street_0 : decode cX8_street 0 = .ok (.iload_n 1, 1) := by decide +kernel
theorem dX8_street_1 : decode cX8_street 1 = .ok (.invokestatic 94, 3) := by decide +kernel
theorem dX8_street_4 : decode cX8_street 4 = .ok (.ifCond .eq 33, 3) := by decide +kernel
theorem dX8_street_7 : decode cX8_street 7 = .ok (.iload_n 2, 1) := by decide +kernel
theorem dX8_street_8 : decode cX8_street 8 = .ok (.invokestatic 98, 3) := by decide +kernel
theorem dX8_street_11 : decode cX8_street 11 = .ok (.ifCond .eq 26, 3) := by decide +kernel
theorem dX8_street_14 : decode cX8_street 14 = .ok (.iload_n 3, 1) := by decide +kernel
theorem dX8_street_15 : decode cX8_street 15 = .ok (.invokestatic 98, 3) := by decide +kernel
theorem dX8_street_18 : decode cX8_street 18 = .ok (.ifCond .eq 19, 3) := by decide +kernel
theorem dX8_street_21 : decode cX8_street 21 = .ok (.iload_n 2, 1) := by decide +kernel
theorem dX8_street_22 : decode cX8_street 22 = .ok (.iload_n 3, 1) := by decide +kernel
theorem dX8_street_23 : decode cX8_street 23 = .ok (.if_icmp .eq 14, 3) := by decide +kernel
theorem dX8_street_26 : decode cX8_street 26 = .ok (.iload 4, 2) := by decide +kernel
theorem dX8_street_28 : decode cX8_street 28 = .ok (.iconst 1, 1) := by decide +kernel
theorem dX8_street_29 : decode cX8_street 29 = .ok (.bipush 20, 2) := by decide +kernel
theorem dX8_street_31 : decode cX8_street 31 = .ok (.invokestatic 78, 3) := by decide +kernel
theorem dX8_street_34 : decode cX8_street 34 = .ok (.ifCond .ne 10, 3) := by decide +kernel
theorem dX8_street_37 : decode cX8_street 37 = .ok (.aload_n 0, 1) := by decide +kernel
theorem dX8_street_38 : decode cX8_street 38 = .ok (.ldc 73, 2) := by decide +kernel
theorem dX8_street_40 : decode cX8_street 40 = .ok (.invokevirtual 101, 3) := by decide +kernel
theorem dX8_street_43 : decode cX8_street 43 = .ok (.ireturn, 1) := by decide +kernel
theorem dX8_street_44 : decode cX8_street 44 = .ok (.aload_n 0, 1) := by decide +kernel
theorem dX8_street_45 : decode cX8_street 45 = .ok (.getfield 9, 3) := by decide +kernel
theorem dX8_street_48 : decode cX8_street 48 = .ok (.bipush 8, 2) := by decide +kernel
theorem dX8_street_50 : decode cX8_street 50 = .ok (.iaload, 1) := by decide +kernel
theorem dX8_street_51 : decode cX8_street 51 = .ok (.bipush 14, 2) := by decide +kernel
theorem dX8_street_53 : decode cX8_street 53 = .ok (.if_icmp .ne 12, 3) := by decide +kernel
theorem dX8_street_56 : decode cX8_street 56 = .ok (.aload_n 0, 1) := by decide +kernel
theorem dX8_street_57 : decode cX8_street 57 = .ok (.ldc 105, 2) := by decide +kernel
theorem dX8_street_59 : decode cX8_street 59 = .ok (.invokevirtual 101, 3) := by decide +kernel
theorem dX8_street_62 : decode cX8_street 62 = .ok (.goto 13, 3) := by decide +kernel
theorem dX8_street_65 : decode cX8_street 65 = .ok (.aload_n 0, 1) := by decide +kernel
theorem dX8_street_66 : decode cX8_street 66 = .ok (.iload_n 1, 1) := by decide +kernel
theorem dX8_street_67 : decode cX8_street 67 = .ok (.iload_n 2, 1) := by decide +kernel
theorem dX8_street_68 : decode cX8_street 68 = .ok (.iload_n 3, 1) := by decide +kernel
theorem dX8_street_69 : decode cX8_street 69 = .ok (.iload 4, 2) := by decide +kernel
theorem dX8_street_71 : decode cX8_street 71 = .ok (.iconst 0, 1) := by decide +kernel
theorem dX8_street_72 : decode cX8_street 72 = .ok (.invokevirtual 106, 3) := by decide +kernel
theorem dX8_street_75 : decode cX8_street 75 = .ok (.ireturn, 1) := by decide +kernel
theorem dX8_above_0 : decode cX8_above 0 = .ok (.iload_n 0, 1) := by decide +kernel
theorem dX8_above_1 : decode cX8_above 1 = .ok (.ifCond .ne 7, 3) := by decide +kernel
theorem dX8_above_4 : decode cX8_above 4 = .ok (.iconst (-1), 1) := by decide +kernel
theorem dX8_above_5 : decode cX8_above 5 = .ok (.goto 32, 3) := by decide +kernel
theorem dX8_above_8 : decode cX8_above 8 = .ok (.iload_n 0, 1) := by decide +kernel
theorem dX8_above_9 : decode cX8_above 9 = .ok (.iconst 3, 1) := by decide +kernel
theorem dX8_above_10 : decode cX8_above 10 = .ok (.if_icmp .ne 7, 3) := by decide +kernel
theorem dX8_above_13 : decode cX8_above 13 = .ok (.iconst 1, 1) := by decide +kernel
theorem dX8_above_14 : decode cX8_above 14 = .ok (.goto 23, 3) := by decide +kernel
theorem dX8_above_17 : decode cX8_above 17 = .ok (.iload_n 0, 1) := by decide +kernel
theorem dX8_above_18 : decode cX8_above 18 = .ok (.iconst 4, 1) := by decide +kernel
theorem dX8_above_19 : decode cX8_above 19 = .ok (.if_icmp .ne 7, 3) := by decide +kernel
theorem dX8_above_22 : decode cX8_above 22 = .ok (.iconst 2, 1) := by decide +kernel
theorem dX8_above_23 : decode cX8_above 23 = .ok (.goto 14, 3) := by decide +kernel
theorem dX8_above_26 : decode cX8_above 26 = .ok (.iload_n 0, 1) := by decide +kernel
theorem dX8_above_27 : decode cX8_above 27 = .ok (.bipush 6, 2) := by decide +kernel
theorem dX8_above_29 : decode cX8_above 29 = .ok (.if_icmp .ne 7, 3) := by decide +kernel
theorem dX8_above_32 : decode cX8_above 32 = .ok (.iconst 5, 1) := by decide +kernel
theorem dX8_above_33 : decode cX8_above 33 = .ok (.goto 4, 3) := by decide +kernel
theorem dX8_above_36 : decode cX8_above 36 = .ok (.iconst 0, 1) := by decide +kernel
theorem dX8_above_37 : decode cX8_above 37 = .ok (.ireturn, 1) := by decide +kernel
theorem dX8_isUnder_0 : decode cX8_isUnder 0 = .ok (.iload_n 0, 1) := by decide +kernel
theorem dX8_isUnder_1 : decode cX8_isUnder 1 = .ok (.istore_n 2, 1) := by decide +kernel
theorem dX8_isUnder_2 : decode cX8_isUnder 2 = .ok (.iload_n 2, 1) := by decide +kernel
theorem dX8_isUnder_3 : decode cX8_isUnder 3 = .ok (.ifCond .lt 16, 3) := by decide +kernel
theorem dX8_isUnder_6 : decode cX8_isUnder 6 = .ok (.iload_n 2, 1) := by decide +kernel
theorem dX8_isUnder_7 : decode cX8_isUnder 7 = .ok (.iload_n 1, 1) := by decide +kernel
theorem dX8_isUnder_8 : decode cX8_isUnder 8 = .ok (.if_icmp .eq 11, 3) := by decide +kernel
theorem dX8_isUnder_11 : decode cX8_isUnder 11 = .ok (.iload_n 2, 1) := by decide +kernel
theorem dX8_isUnder_12 : decode cX8_isUnder 12 = .ok (.invokestatic 110, 3) := by decide +kernel
theorem dX8_isUnder_15 : decode cX8_isUnder 15 = .ok (.istore_n 2, 1) := by decide +kernel
theorem dX8_isUnder_16 : decode cX8_isUnder 16 = .ok (.goto (-14), 3) := by decide +kernel
theorem dX8_isUnder_19 : decode cX8_isUnder 19 = .ok (.iload_n 2, 1) := by decide +kernel
theorem dX8_isUnder_20 : decode cX8_isUnder 20 = .ok (.ifCond .lt 7, 3) := by decide +kernel
theorem dX8_isUnder_23 : decode cX8_isUnder 23 = .ok (.iconst 1, 1) := by decide +kernel
theorem dX8_isUnder_24 : decode cX8_isUnder 24 = .ok (.goto 4, 3) := by decide +kernel
theorem dX8_isUnder_27 : decode cX8_isUnder 27 = .ok (.iconst 0, 1) := by decide +kernel
theorem dX8_isUnder_28 : decode cX8_isUnder 28 = .ok (.ireturn, 1) := by decide +kernel
theorem dX8_takes_0 : decode cX8_takes 0 = .ok (.aload_n 0, 1) := by decide +kernel
theorem dX8_takes_1 : decode cX8_takes 1 = .ok (.iload_n 1, 1) := by decide +kernel
theorem dX8_takes_2 : decode cX8_takes 2 = .ok (.iconst 0, 1) := by decide +kernel
theorem dX8_takes_3 : decode cX8_takes 3 = .ok (.invokevirtual 113, 3) := by decide +kernel
theorem dX8_takes_6 : decode cX8_takes 6 = .ok (.istore_n 2, 1) := by decide +kernel
theorem dX8_takes_7 : decode cX8_takes 7 = .ok (.aload_n 0, 1) := by decide +kernel
theorem dX8_takes_8 : decode cX8_takes 8 = .ok (.iload_n 1, 1) := by decide +kernel
theorem dX8_takes_9 : decode cX8_takes 9 = .ok (.iconst 3, 1) := by decide +kernel
theorem dX8_takes_10 : decode cX8_takes 10 = .ok (.invokevirtual 113, 3) := by decide +kernel
theorem dX8_takes_13 : decode cX8_takes 13 = .ok (.istore_n 3, 1) := by decide +kernel
theorem dX8_takes_14 : decode cX8_takes 14 = .ok (.iload_n 2, 1) := by decide +kernel
theorem dX8_takes_15 : decode cX8_takes 15 = .ok (.iconst 4, 1) := by decide +kernel
theorem dX8_takes_16 : decode cX8_takes 16 = .ok (.if_icmp .ne 11, 3) := by decide +kernel
theorem dX8_takes_19 : decode cX8_takes 19 = .ok (.iload_n 3, 1) := by decide +kernel
theorem dX8_takes_20 : decode cX8_takes 20 = .ok (.iload_n 3, 1) := by decide +kernel
theorem dX8_takes_21 : decode cX8_takes 21 = .ok (.iconst 2, 1) := by decide +kernel
theorem dX8_takes_22 : decode cX8_takes 22 = .ok (.idiv, 1) := by decide +kernel
theorem dX8_takes_23 : decode cX8_takes 23 = .ok (.iadd, 1) := by decide +kernel
theorem dX8_takes_24 : decode cX8_takes 24 = .ok (.goto 18, 3) := by decide +kernel
theorem dX8_takes_27 : decode cX8_takes 27 = .ok (.iload_n 2, 1) := by decide +kernel
theorem dX8_takes_28 : decode cX8_takes 28 = .ok (.iconst 5, 1) := by decide +kernel
theorem dX8_takes_29 : decode cX8_takes 29 = .ok (.invokestatic 116, 3) := by decide +kernel
theorem dX8_takes_32 : decode cX8_takes 32 = .ok (.ifCond .eq 9, 3) := by decide +kernel
theorem dX8_takes_35 : decode cX8_takes 35 = .ok (.iload_n 3, 1) := by decide +kernel
theorem dX8_takes_36 : decode cX8_takes 36 = .ok (.iconst 2, 1) := by decide +kernel
theorem dX8_takes_37 : decode cX8_takes 37 = .ok (.iadd, 1) := by decide +kernel
theorem dX8_takes_38 : decode cX8_takes 38 = .ok (.goto 4, 3) := by decide +kernel
theorem dX8_takes_41 : decode cX8_takes 41 = .ok (.iload_n 3, 1) := by decide +kernel
theorem dX8_takes_42 : decode cX8_takes 42 = .ok (.ireturn, 1) := by decide +kernel
theorem dX8_licks_0 : decode cX8_licks 0 = .ok (.aload_n 0, 1) := by decide +kernel
theorem dX8_licks_1 : decode cX8_licks 1 = .ok (.iload_n 1, 1) := by decide +kernel
theorem dX8_licks_2 : decode cX8_licks 2 = .ok (.iconst 0, 1) := by decide +kernel
theorem dX8_licks_3 : decode cX8_licks 3 = .ok (.invokevirtual 113, 3) := by decide +kernel
theorem dX8_licks_6 : decode cX8_licks 6 = .ok (.istore_n 2, 1) := by decide +kernel
theorem dX8_licks_7 : decode cX8_licks 7 = .ok (.iload_n 2, 1) := by decide +kernel
theorem dX8_licks_8 : decode cX8_licks 8 = .ok (.bipush 6, 2) := by decide +kernel
theorem dX8_licks_10 : decode cX8_licks 10 = .ok (.if_icmp .ne 7, 3) := by decide +kernel
theorem dX8_licks_13 : decode cX8_licks 13 = .ok (.iconst 5, 1) := by decide +kernel
theorem dX8_licks_14 : decode cX8_licks 14 = .ok (.goto 13, 3) := by decide +kernel
theorem dX8_licks_17 : decode cX8_licks 17 = .ok (.iload_n 2, 1) := by decide +kernel
theorem dX8_licks_18 : decode cX8_licks 18 = .ok (.iconst 5, 1) := by decide +kernel
theorem dX8_licks_19 : decode cX8_licks 19 = .ok (.if_icmp .ne 7, 3) := by decide +kernel
theorem dX8_licks_22 : decode cX8_licks 22 = .ok (.iconst 2, 1) := by decide +kernel
theorem dX8_licks_23 : decode cX8_licks 23 = .ok (.goto 4, 3) := by decide +kernel
theorem dX8_licks_26 : decode cX8_licks 26 = .ok (.iconst 0, 1) := by decide +kernel
theorem dX8_licks_27 : decode cX8_licks 27 = .ok (.ireturn, 1) := by decide +kernel
end
section
theorem dX8_lossOf_0 : decode cX8_lossOf 0 = .ok (.aload_n 0, 1) := by decide +kernel
theorem dX8_lossOf_1 : decode cX8_lossOf 1 = .ok (.iload_n 1, 1) := by decide +kernel
theorem dX8_lossOf_2 : decode cX8_lossOf 2 = .ok (.iconst 0, 1) := by decide +kernel
theorem dX8_lossOf_3 : decode cX8_lossOf 3 = .ok (.invokevirtual 113, 3) := by decide +kernel
theorem dX8_lossOf_6 : decode cX8_lossOf 6 = .ok (.istore_n 3, 1) := by decide +kernel
theorem dX8_lossOf_7 : decode cX8_lossOf 7 = .ok (.aload_n 0, 1) := by decide +kernel
theorem dX8_lossOf_8 : decode cX8_lossOf 8 = .ok (.getfield 9, 3) := by decide +kernel
theorem dX8_lossOf_11 : decode cX8_lossOf 11 = .ok (.bipush 20, 2) := by decide +kernel
theorem dX8_lossOf_13 : decode cX8_lossOf 13 = .ok (.iload_n 2, 1) := by decide +kernel
theorem dX8_lossOf_14 : decode cX8_lossOf 14 = .ok (.iadd, 1) := by decide +kernel
theorem dX8_lossOf_15 : decode cX8_lossOf 15 = .ok (.iaload, 1) := by decide +kernel
theorem dX8_lossOf_16 : decode cX8_lossOf 16 = .ok (.istore 4, 2) := by decide +kernel
theorem dX8_lossOf_18 : decode cX8_lossOf 18 = .ok (.aload_n 0, 1) := by decide +kernel
theorem dX8_lossOf_19 : decode cX8_lossOf 19 = .ok (.getfield 9, 3) := by decide +kernel
theorem dX8_lossOf_22 : decode cX8_lossOf 22 = .ok (.bipush 32, 2) := by decide +kernel
theorem dX8_lossOf_24 : decode cX8_lossOf 24 = .ok (.iload_n 2, 1) := by decide +kernel
theorem dX8_lossOf_25 : decode cX8_lossOf 25 = .ok (.iadd, 1) := by decide +kernel
theorem dX8_lossOf_26 : decode cX8_lossOf 26 = .ok (.iaload, 1) := by decide +kernel
theorem dX8_lossOf_27 : decode cX8_lossOf 27 = .ok (.istore 5, 2) := by decide +kernel
theorem dX8_lossOf_29 : decode cX8_lossOf 29 = .ok (.iconst 2, 1) := by decide +kernel
theorem dX8_lossOf_30 : decode cX8_lossOf 30 = .ok (.iload 4, 2) := by decide +kernel
theorem dX8_lossOf_32 : decode cX8_lossOf 32 = .ok (.imul, 1) := by decide +kernel
theorem dX8_lossOf_33 : decode cX8_lossOf 33 = .ok (.istore 6, 2) := by decide +kernel
theorem dX8_lossOf_35 : decode cX8_lossOf 35 = .ok (.iconst 5, 1) := by decide +kernel
theorem dX8_lossOf_36 : decode cX8_lossOf 36 = .ok (.iload 5, 2) := by decide +kernel
theorem dX8_lossOf_38 : decode cX8_lossOf 38 = .ok (.imul, 1) := by decide +kernel
theorem dX8_lossOf_39 : decode cX8_lossOf 39 = .ok (.istore 7, 2) := by decide +kernel
theorem dX8_lossOf_41 : decode cX8_lossOf 41 = .ok (.iload_n 3, 1) := by decide +kernel
theorem dX8_lossOf_42 : decode cX8_lossOf 42 = .ok (.iconst 3, 1) := by decide +kernel
theorem dX8_lossOf_43 : decode cX8_lossOf 43 = .ok (.if_icmp .ne 12, 3) := by decide +kernel
theorem dX8_lossOf_46 : decode cX8_lossOf 46 = .ok (.iconst 0, 1) := by decide +kernel
theorem dX8_lossOf_47 : decode cX8_lossOf 47 = .ok (.istore 6, 2) := by decide +kernel
theorem dX8_lossOf_49 : decode cX8_lossOf 49 = .ok (.iconst 0, 1) := by decide +kernel
theorem dX8_lossOf_50 : decode cX8_lossOf 50 = .ok (.istore 7, 2) := by decide +kernel
theorem dX8_lossOf_52 : decode cX8_lossOf 52 = .ok (.goto 40, 3) := by decide +kernel
theorem dX8_lossOf_55 : decode cX8_lossOf 55 = .ok (.iload_n 3, 1) := by decide +kernel
theorem dX8_lossOf_56 : decode cX8_lossOf 56 = .ok (.iconst 1, 1) := by decide +kernel
theorem dX8_lossOf_57 : decode cX8_lossOf 57 = .ok (.if_icmp .ne 10, 3) := by decide +kernel
theorem dX8_lossOf_60 : decode cX8_lossOf 60 = .ok (.iload 4, 2) := by decide +kernel
theorem dX8_lossOf_62 : decode cX8_lossOf 62 = .ok (.istore 6, 2) := by decide +kernel
theorem dX8_lossOf_64 : decode cX8_lossOf 64 = .ok (.goto 28, 3) := by decide +kernel
theorem dX8_lossOf_67 : decode cX8_lossOf 67 = .ok (.iload_n 3, 1) := by decide +kernel
theorem dX8_lossOf_68 : decode cX8_lossOf 68 = .ok (.iconst 2, 1) := by decide +kernel
theorem dX8_lossOf_69 : decode cX8_lossOf 69 = .ok (.invokestatic 116, 3) := by decide +kernel
theorem dX8_lossOf_72 : decode cX8_lossOf 72 = .ok (.ifCond .eq 20, 3) := by decide +kernel
theorem dX8_lossOf_75 : decode cX8_lossOf 75 = .ok (.iconst 0, 1) := by decide +kernel
theorem dX8_lossOf_76 : decode cX8_lossOf 76 = .ok (.iload 6, 2) := by decide +kernel
theorem dX8_lossOf_78 : decode cX8_lossOf 78 = .ok (.iconst 3, 1) := by decide +kernel
theorem dX8_lossOf_79 : decode cX8_lossOf 79 = .ok (.isub, 1) := by decide +kernel
theorem dX8_lossOf_80 : decode cX8_lossOf 80 = .ok (.invokestatic 91, 3) := by decide +kernel
theorem dX8_lossOf_83 : decode cX8_lossOf 83 = .ok (.istore 6, 2) := by decide +kernel
theorem dX8_lossOf_85 : decode cX8_lossOf 85 = .ok (.iload 7, 2) := by decide +kernel
theorem dX8_lossOf_87 : decode cX8_lossOf 87 = .ok (.iload 5, 2) := by decide +kernel
theorem dX8_lossOf_89 : decode cX8_lossOf 89 = .ok (.iadd, 1) := by decide +kernel
theorem dX8_lossOf_90 : decode cX8_lossOf 90 = .ok (.istore 7, 2) := by decide +kernel
theorem dX8_lossOf_92 : decode cX8_lossOf 92 = .ok (.aload_n 0, 1) := by decide +kernel
theorem dX8_lossOf_93 : decode cX8_lossOf 93 = .ok (.iload_n 1, 1) := by decide +kernel
theorem dX8_lossOf_94 : decode cX8_lossOf 94 = .ok (.iconst 4, 1) := by decide +kernel
theorem dX8_lossOf_95 : decode cX8_lossOf 95 = .ok (.invokevirtual 113, 3) := by decide +kernel
theorem dX8_lossOf_98 : decode cX8_lossOf 98 = .ok (.iconst 1, 1) := by decide +kernel
theorem dX8_lossOf_99 : decode cX8_lossOf 99 = .ok (.if_icmp .ne 7, 3) := by decide +kernel
theorem dX8_lossOf_102 : decode cX8_lossOf 102 = .ok (.iconst 0, 1) := by decide +kernel
theorem dX8_lossOf_103 : decode cX8_lossOf 103 = .ok (.goto 5, 3) := by decide +kernel
theorem dX8_lossOf_106 : decode cX8_lossOf 106 = .ok (.iload 7, 2) := by decide +kernel
theorem dX8_lossOf_108 : decode cX8_lossOf 108 = .ok (.istore 7, 2) := by decide +kernel
theorem dX8_lossOf_110 : decode cX8_lossOf 110 = .ok (.aload_n 0, 1) := by decide +kernel
theorem dX8_lossOf_111 : decode cX8_lossOf 111 = .ok (.getfield 9, 3) := by decide +kernel
theorem dX8_lossOf_114 : decode cX8_lossOf 114 = .ok (.bipush 44, 2) := by decide +kernel
theorem dX8_lossOf_116 : decode cX8_lossOf 116 = .ok (.iaload, 1) := by decide +kernel
theorem dX8_lossOf_117 : decode cX8_lossOf 117 = .ok (.iconst 1, 1) := by decide +kernel
theorem dX8_lossOf_118 : decode cX8_lossOf 118 = .ok (.if_icmp .ne 15, 3) := by decide +kernel
theorem dX8_lossOf_121 : decode cX8_lossOf 121 = .ok (.iload 6, 2) := by decide +kernel
theorem dX8_lossOf_123 : decode cX8_lossOf 123 = .ok (.iconst 2, 1) := by decide +kernel
theorem dX8_lossOf_124 : decode cX8_lossOf 124 = .ok (.idiv, 1) := by decide +kernel
theorem dX8_lossOf_125 : decode cX8_lossOf 125 = .ok (.iconst 2, 1) := by decide +kernel
theorem dX8_lossOf_126 : decode cX8_lossOf 126 = .ok (.iload 7, 2) := by decide +kernel
theorem dX8_lossOf_128 : decode cX8_lossOf 128 = .ok (.imul, 1) := by decide +kernel
theorem dX8_lossOf_129 : decode cX8_lossOf 129 = .ok (.iadd, 1) := by decide +kernel
theorem dX8_lossOf_130 : decode cX8_lossOf 130 = .ok (.goto 14, 3) := by decide +kernel
theorem dX8_lossOf_133 : decode cX8_lossOf 133 = .ok (.iload 6, 2) := by decide +kernel
theorem dX8_lossOf_135 : decode cX8_lossOf 135 = .ok (.iload 7, 2) := by decide +kernel
theorem dX8_lossOf_137 : decode cX8_lossOf 137 = .ok (.iadd, 1) := by decide +kernel
theorem dX8_lossOf_138 : decode cX8_lossOf 138 = .ok (.aload_n 0, 1) := by decide +kernel
theorem dX8_lossOf_139 : decode cX8_lossOf 139 = .ok (.iload_n 1, 1) := by decide +kernel
theorem dX8_lossOf_140 : decode cX8_lossOf 140 = .ok (.invokevirtual 120, 3) := by decide +kernel
theorem dX8_lossOf_143 : decode cX8_lossOf 143 = .ok (.iadd, 1) := by decide +kernel
theorem dX8_lossOf_144 : decode cX8_lossOf 144 = .ok (.ireturn, 1) := by decide +kernel
theorem dX8_of_0 : decode cX8_of 0 = .ok (.aload_n 0, 1) := by decide +kernel
theorem dX8_of_1 : decode cX8_of 1 = .ok (.iload_n 1, 1) := by decide +kernel
theorem dX8_of_2 : decode cX8_of 2 = .ok (.invokevirtual 123, 3) := by decide +kernel
theorem dX8_of_5 : decode cX8_of 5 = .ok (.ifCond .eq 13, 3) := by decide +kernel
theorem dX8_of_8 : decode cX8_of 8 = .ok (.iload_n 2, 1) := by decide +kernel
theorem dX8_of_9 : decode cX8_of 9 = .ok (.iconst 0, 1) := by decide +kernel
theorem dX8_of_10 : decode cX8_of 10 = .ok (.bipush 6, 2) := by decide +kernel
theorem dX8_of_12 : decode cX8_of 12 = .ok (.invokestatic 78, 3) := by decide +kernel
theorem dX8_of_15 : decode cX8_of 15 = .ok (.ifCond .ne 10, 3) := by decide +kernel
theorem dX8_of_18 : decode cX8_of 18 = .ok (.aload_n 0, 1) := by decide +kernel
theorem dX8_of_19 : decode cX8_of 19 = .ok (.ldc 73, 2) := by decide +kernel
theorem dX8_of_21 : decode cX8_of 21 = .ok (.invokevirtual 101, 3) := by decide +kernel
theorem dX8_of_24 : decode cX8_of 24 = .ok (.ireturn, 1) := by decide +kernel
theorem dX8_of_25 : decode cX8_of 25 = .ok (.iload_n 2, 1) := by decide +kernel
theorem dX8_of_26 : decode cX8_of 26 = .ok (.iconst 5, 1) := by decide +kernel
theorem dX8_of_27 : decode cX8_of 27 = .ok (.if_icmp .ne 11, 3) := by decide +kernel
theorem dX8_of_30 : decode cX8_of 30 = .ok (.aload_n 0, 1) := by decide +kernel
theorem dX8_of_31 : decode cX8_of 31 = .ok (.iload_n 1, 1) := by decide +kernel
theorem dX8_of_32 : decode cX8_of 32 = .ok (.invokevirtual 126, 3) := by decide +kernel
theorem dX8_of_35 : decode cX8_of 35 = .ok (.goto 23, 3) := by decide +kernel
theorem dX8_of_38 : decode cX8_of 38 = .ok (.iload_n 2, 1) := by decide +kernel
theorem dX8_of_39 : decode cX8_of 39 = .ok (.bipush 6, 2) := by decide +kernel
theorem dX8_of_41 : decode cX8_of 41 = .ok (.if_icmp .ne 11, 3) := by decide +kernel
theorem dX8_of_44 : decode cX8_of 44 = .ok (.aload_n 0, 1) := by decide +kernel
theorem dX8_of_45 : decode cX8_of 45 = .ok (.iload_n 1, 1) := by decide +kernel
theorem dX8_of_46 : decode cX8_of 46 = .ok (.invokevirtual 120, 3) := by decide +kernel
theorem dX8_of_49 : decode cX8_of 49 = .ok (.goto 9, 3) := by decide +kernel
theorem dX8_of_52 : decode cX8_of 52 = .ok (.aload_n 0, 1) := by decide +kernel
theorem dX8_of_53 : decode cX8_of 53 = .ok (.iload_n 1, 1) := by decide +kernel
theorem dX8_of_54 : decode cX8_of 54 = .ok (.iload_n 2, 1) := by decide +kernel
theorem dX8_of_55 : decode cX8_of 55 = .ok (.invokevirtual 113, 3) := by decide +kernel
theorem dX8_of_58 : decode cX8_of 58 = .ok (.ireturn, 1) := by decide +kernel
theorem dX8_change_0 : decode cX8_change 0 = .ok (.iload_n 2, 1) := by decide +kernel
theorem dX8_change_1 : decode cX8_change 1 = .ok (.ifCond .ne 10, 3) := by decide +kernel
theorem dX8_change_4 : decode cX8_change 4 = .ok (.iload_n 3, 1) := by decide +kernel
theorem dX8_change_5 : decode cX8_change 5 = .ok (.invokestatic 94, 3) := by decide +kernel
theorem dX8_change_8 : decode cX8_change 8 = .ok (.ifCond .ne 32, 3) := by decide +kernel
theorem dX8_change_11 : decode cX8_change 11 = .ok (.iload_n 2, 1) := by decide +kernel
theorem dX8_change_12 : decode cX8_change 12 = .ok (.iconst 3, 1) := by decide +kernel
theorem dX8_change_13 : decode cX8_change 13 = .ok (.if_icmp .ne 13, 3) := by decide +kernel
theorem dX8_change_16 : decode cX8_change 16 = .ok (.iload_n 3, 1) := by decide +kernel
theorem dX8_change_17 : decode cX8_change 17 = .ok (.iconst 1, 1) := by decide +kernel
theorem dX8_change_18 : decode cX8_change 18 = .ok (.bipush 20, 2) := by decide +kernel
theorem dX8_change_20 : decode cX8_change 20 = .ok (.invokestatic 78, 3) := by decide +kernel
theorem dX8_change_23 : decode cX8_change 23 = .ok (.ifCond .ne 17, 3) := by decide +kernel
theorem dX8_change_26 : decode cX8_change 26 = .ok (.iload_n 2, 1) := by decide +kernel
theorem dX8_change_27 : decode cX8_change 27 = .ok (.iconst 4, 1) := by decide +kernel
theorem dX8_change_28 : decode cX8_change 28 = .ok (.if_icmp .ne 16, 3) := by decide +kernel
theorem dX8_change_31 : decode cX8_change 31 = .ok (.iload_n 3, 1) := by decide +kernel
theorem dX8_change_32 : decode cX8_change 32 = .ok (.iconst 0, 1) := by decide +kernel
theorem dX8_change_33 : decode cX8_change 33 = .ok (.iconst 1, 1) := by decide +kernel
theorem dX8_change_34 : decode cX8_change 34 = .ok (.invokestatic 78, 3) := by decide +kernel
theorem dX8_change_37 : decode cX8_change 37 = .ok (.ifCond .eq 7, 3) := by decide +kernel
theorem dX8_change_40 : decode cX8_change 40 = .ok (.iconst 1, 1) := by decide +kernel
theorem dX8_change_41 : decode cX8_change 41 = .ok (.goto 4, 3) := by decide +kernel
theorem dX8_change_44 : decode cX8_change 44 = .ok (.iconst 0, 1) := by decide +kernel
theorem dX8_change_45 : decode cX8_change 45 = .ok (.istore 4, 2) := by decide +kernel
theorem dX8_change_47 : decode cX8_change 47 = .ok (.aload_n 0, 1) := by decide +kernel
theorem dX8_change_48 : decode cX8_change 48 = .ok (.iload_n 1, 1) := by decide +kernel
theorem dX8_change_49 : decode cX8_change 49 = .ok (.invokevirtual 123, 3) := by decide +kernel
theorem dX8_change_52 : decode cX8_change 52 = .ok (.ifCond .eq 21, 3) := by decide +kernel
theorem dX8_change_55 : decode cX8_change 55 = .ok (.iload 4, 2) := by decide +kernel
theorem dX8_change_57 : decode cX8_change 57 = .ok (.ifCond .eq 16, 3) := by decide +kernel
theorem dX8_change_60 : decode cX8_change 60 = .ok (.aload_n 0, 1) := by decide +kernel
theorem dX8_change_61 : decode cX8_change 61 = .ok (.iload_n 1, 1) := by decide +kernel
theorem dX8_change_62 : decode cX8_change 62 = .ok (.iload_n 2, 1) := by decide +kernel
theorem dX8_change_63 : decode cX8_change 63 = .ok (.invokestatic 82, 3) := by decide +kernel
theorem dX8_change_66 : decode cX8_change 66 = .ok (.iload_n 3, 1) := by decide +kernel
theorem dX8_change_67 : decode cX8_change 67 = .ok (.invokevirtual 129, 3) := by decide +kernel
theorem dX8_change_70 : decode cX8_change 70 = .ok (.goto 9, 3) := by decide +kernel
theorem dX8_change_73 : decode cX8_change 73 = .ok (.aload_n 0, 1) := by decide +kernel
theorem dX8_change_74 : decode cX8_change 74 = .ok (.ldc 73, 2) := by decide +kernel
theorem dX8_change_76 : decode cX8_change 76 = .ok (.invokevirtual 101, 3) := by decide +kernel
theorem dX8_change_79 : decode cX8_change 79 = .ok (.ireturn, 1) := by decide +kernel
theorem dX8_quarter_0 : decode cX8_quarter 0 = .ok (.iload_n 1, 1) := by decide +kernel
theorem dX8_quarter_1 : decode cX8_quarter 1 = .ok (.invokestatic 98, 3) := by decide +kernel
theorem dX8_quarter_4 : decode cX8_quarter 4 = .ok (.ifCond .eq 23, 3) := by decide +kernel
theorem dX8_quarter_7 : decode cX8_quarter 7 = .ok (.iload_n 2, 1) := by decide +kernel
theorem dX8_quarter_8 : decode cX8_quarter 8 = .ok (.iconst 0, 1) := by decide +kernel
theorem dX8_quarter_9 : decode cX8_quarter 9 = .ok (.iconst 3, 1) := by decide +kernel
theorem dX8_quarter_10 : decode cX8_quarter 10 = .ok (.invokestatic 78, 3) := by decide +kernel
theorem dX8_quarter_13 : decode cX8_quarter 13 = .ok (.ifCond .eq 14, 3) := by decide +kernel
theorem dX8_quarter_16 : decode cX8_quarter 16 = .ok (.aload_n 0, 1) := by decide +kernel
theorem dX8_quarter_17 : decode cX8_quarter 17 = .ok (.iconst 0, 1) := by decide +kernel
theorem dX8_quarter_18 : decode cX8_quarter 18 = .ok (.iload_n 1, 1) := by decide +kernel
theorem dX8_quarter_19 : decode cX8_quarter 19 = .ok (.iadd, 1) := by decide +kernel
theorem dX8_quarter_20 : decode cX8_quarter 20 = .ok (.iload_n 2, 1) := by decide +kernel
theorem dX8_quarter_21 : decode cX8_quarter 21 = .ok (.invokevirtual 129, 3) := by decide +kernel
theorem dX8_quarter_24 : decode cX8_quarter 24 = .ok (.goto 9, 3) := by decide +kernel
theorem dX8_quarter_27 : decode cX8_quarter 27 = .ok (.aload_n 0, 1) := by decide +kernel
theorem dX8_quarter_28 : decode cX8_quarter 28 = .ok (.ldc 73, 2) := by decide +kernel
theorem dX8_quarter_30 : decode cX8_quarter 30 = .ok (.invokevirtual 101, 3) := by decide +kernel
theorem dX8_quarter_33 : decode cX8_quarter 33 = .ok (.ireturn, 1) := by decide +kernel
theorem dX8_isSpell_0 : decode cX8_isSpell 0 = .ok (.iload_n 0, 1) := by decide +kernel
theorem dX8_isSpell_1 : decode cX8_isSpell 1 = .ok (.iconst 0, 1) := by decide +kernel
theorem dX8_isSpell_2 : decode cX8_isSpell 2 = .ok (.bipush 11, 2) := by decide +kernel
theorem dX8_isSpell_4 : decode cX8_isSpell 4 = .ok (.invokestatic 78, 3) := by decide +kernel
theorem dX8_isSpell_7 : decode cX8_isSpell 7 = .ok (.ireturn, 1) := by decide +kernel
theorem dX8_spell_0 : decode cX8_spell 0 = .ok (.iload_n 1, 1) := by decide +kernel
theorem dX8_spell_1 : decode cX8_spell 1 = .ok (.invokestatic 132, 3) := by decide +kernel
theorem dX8_spell_4 : decode cX8_spell 4 = .ok (.ifCond .eq 26, 3) := by decide +kernel
theorem dX8_spell_7 : decode cX8_spell 7 = .ok (.iload_n 2, 1) := by decide +kernel
theorem dX8_spell_8 : decode cX8_spell 8 = .ok (.iconst 0, 1) := by decide +kernel
theorem dX8_spell_9 : decode cX8_spell 9 = .ok (.iconst 1, 1) := by decide +kernel
theorem dX8_spell_10 : decode cX8_spell 10 = .ok (.invokestatic 78, 3) := by decide +kernel
theorem dX8_spell_13 : decode cX8_spell 13 = .ok (.ifCond .eq 17, 3) := by decide +kernel
theorem dX8_spell_16 : decode cX8_spell 16 = .ok (.iload_n 3, 1) := by decide +kernel
theorem dX8_spell_17 : decode cX8_spell 17 = .ok (.iconst 0, 1) := by decide +kernel
theorem dX8_spell_18 : decode cX8_spell 18 = .ok (.bipush 9, 2) := by decide +kernel
theorem dX8_spell_20 : decode cX8_spell 20 = .ok (.invokestatic 78, 3) := by decide +kernel
theorem dX8_spell_23 : decode cX8_spell 23 = .ok (.ifCond .eq 7, 3) := by decide +kernel
theorem dX8_spell_26 : decode cX8_spell 26 = .ok (.iconst 1, 1) := by decide +kernel
theorem dX8_spell_27 : decode cX8_spell 27 = .ok (.goto 4, 3) := by decide +kernel
theorem dX8_spell_30 : decode cX8_spell 30 = .ok (.iconst 0, 1) := by decide +kernel
theorem dX8_spell_31 : decode cX8_spell 31 = .ok (.istore 4, 2) := by decide +kernel
theorem dX8_spell_33 : decode cX8_spell 33 = .ok (.iload 4, 2) := by decide +kernel
theorem dX8_spell_35 : decode cX8_spell 35 = .ok (.ifCond .eq 24, 3) := by decide +kernel
theorem dX8_spell_38 : decode cX8_spell 38 = .ok (.aload_n 0, 1) := by decide +kernel
theorem dX8_spell_39 : decode cX8_spell 39 = .ok (.iload_n 2, 1) := by decide +kernel
theorem dX8_spell_40 : decode cX8_spell 40 = .ok (.ifCond .ne 8, 3) := by decide +kernel
theorem dX8_spell_43 : decode cX8_spell 43 = .ok (.bipush 20, 2) := by decide +kernel
theorem dX8_spell_45 : decode cX8_spell 45 = .ok (.goto 5, 3) := by decide +kernel
theorem dX8_spell_48 : decode cX8_spell 48 = .ok (.bipush 32, 2) := by decide +kernel
theorem dX8_spell_50 : decode cX8_spell 50 = .ok (.iload_n 1, 1) := by decide +kernel
theorem dX8_spell_51 : decode cX8_spell 51 = .ok (.iadd, 1) := by decide +kernel
theorem dX8_spell_52 : decode cX8_spell 52 = .ok (.iload_n 3, 1) := by decide +kernel
theorem dX8_spell_53 : decode cX8_spell 53 = .ok (.invokevirtual 129, 3) := by decide +kernel
theorem dX8_spell_56 : decode cX8_spell 56 = .ok (.goto 9, 3) := by decide +kernel
theorem dX8_spell_59 : decode cX8_spell 59 = .ok (.aload_n 0, 1) := by decide +kernel
theorem dX8_spell_60 : decode cX8_spell 60 = .ok (.ldc 73, 2) := by decide +kernel
theorem dX8_spell_62 : decode cX8_spell 62 = .ok (.invokevirtual 101, 3) := by decide +kernel
theorem dX8_spell_65 : decode cX8_spell 65 = .ok (.ireturn, 1) := by decide +kernel
theorem dX8_loss_0 : decode cX8_loss 0 = .ok (.aload_n 0, 1) := by decide +kernel
theorem dX8_loss_1 : decode cX8_loss 1 = .ok (.iload_n 1, 1) := by decide +kernel
theorem dX8_loss_2 : decode cX8_loss 2 = .ok (.invokevirtual 123, 3) := by decide +kernel
theorem dX8_loss_5 : decode cX8_loss 5 = .ok (.ifCond .eq 19, 3) := by decide +kernel
theorem dX8_loss_8 : decode cX8_loss 8 = .ok (.iload_n 2, 1) := by decide +kernel
theorem dX8_loss_9 : decode cX8_loss 9 = .ok (.invokestatic 132, 3) := by decide +kernel
theorem dX8_loss_12 : decode cX8_loss 12 = .ok (.ifCond .eq 12, 3) := by decide +kernel
theorem dX8_loss_15 : decode cX8_loss 15 = .ok (.aload_n 0, 1) := by decide +kernel
theorem dX8_loss_16 : decode cX8_loss 16 = .ok (.iload_n 1, 1) := by decide +kernel
theorem dX8_loss_17 : decode cX8_loss 17 = .ok (.iload_n 2, 1) := by decide +kernel
theorem dX8_loss_18 : decode cX8_loss 18 = .ok (.invokevirtual 135, 3) := by decide +kernel
theorem dX8_loss_21 : decode cX8_loss 21 = .ok (.goto 9, 3) := by decide +kernel
theorem dX8_loss_24 : decode cX8_loss 24 = .ok (.aload_n 0, 1) := by decide +kernel
theorem dX8_loss_25 : decode cX8_loss 25 = .ok (.ldc 73, 2) := by decide +kernel
theorem dX8_loss_27 : decode cX8_loss 27 = .ok (.invokevirtual 101, 3) := by decide +kernel
theorem dX8_loss_30 : decode cX8_loss 30 = .ok (.ireturn, 1) := by decide +kernel
theorem dX8_streetBy_0 : decode cX8_streetBy 0 = .ok (.iconst (-1), 1) := by decide +kernel
theorem dX8_streetBy_1 : decode cX8_streetBy 1 = .ok (.istore_n 3, 1) := by decide +kernel
theorem dX8_streetBy_2 : decode cX8_streetBy 2 = .ok (.aload_n 0, 1) := by decide +kernel
theorem dX8_streetBy_3 : decode cX8_streetBy 3 = .ok (.getfield 9, 3) := by decide +kernel
theorem dX8_streetBy_6 : decode cX8_streetBy 6 = .ok (.bipush 8, 2) := by decide +kernel
theorem dX8_streetBy_8 : decode cX8_streetBy 8 = .ok (.iaload, 1) := by decide +kernel
theorem dX8_streetBy_9 : decode cX8_streetBy 9 = .ok (.iconst 1, 1) := by decide +kernel
theorem dX8_streetBy_10 : decode cX8_streetBy 10 = .ok (.isub, 1) := by decide +kernel
theorem dX8_streetBy_11 : decode cX8_streetBy 11 = .ok (.istore 4, 2) := by decide +kernel
theorem dX8_streetBy_13 : decode cX8_streetBy 13 = .ok (.iload 4, 2) := by decide +kernel
theorem dX8_streetBy_15 : decode cX8_streetBy 15 = .ok (.ifCond .lt 67, 3) := by decide +kernel
theorem dX8_streetBy_18 : decode cX8_streetBy 18 = .ok (.aload_n 0, 1) := by decide +kernel
theorem dX8_streetBy_19 : decode cX8_streetBy 19 = .ok (.iload 4, 2) := by decide +kernel
theorem dX8_streetBy_21 : decode cX8_streetBy 21 = .ok (.iconst 1, 1) := by decide +kernel
theorem dX8_streetBy_22 : decode cX8_streetBy 22 = .ok (.invokevirtual 113, 3) := by decide +kernel
theorem dX8_streetBy_25 : decode cX8_streetBy 25 = .ok (.iload_n 1, 1) := by decide +kernel
theorem dX8_streetBy_26 : decode cX8_streetBy 26 = .ok (.iload_n 2, 1) := by decide +kernel
theorem dX8_streetBy_27 : decode cX8_streetBy 27 = .ok (.invokestatic 86, 3) := by decide +kernel
theorem dX8_streetBy_30 : decode cX8_streetBy 30 = .ok (.if_icmp .ne 22, 3) := by decide +kernel
theorem dX8_streetBy_33 : decode cX8_streetBy 33 = .ok (.aload_n 0, 1) := by decide +kernel
theorem dX8_streetBy_34 : decode cX8_streetBy 34 = .ok (.iload 4, 2) := by decide +kernel
theorem dX8_streetBy_36 : decode cX8_streetBy 36 = .ok (.iconst 2, 1) := by decide +kernel
theorem dX8_streetBy_37 : decode cX8_streetBy 37 = .ok (.invokevirtual 113, 3) := by decide +kernel
theorem dX8_streetBy_40 : decode cX8_streetBy 40 = .ok (.iload_n 1, 1) := by decide +kernel
theorem dX8_streetBy_41 : decode cX8_streetBy 41 = .ok (.iload_n 2, 1) := by decide +kernel
theorem dX8_streetBy_42 : decode cX8_streetBy 42 = .ok (.invokestatic 91, 3) := by decide +kernel
theorem dX8_streetBy_45 : decode cX8_streetBy 45 = .ok (.if_icmp .ne 7, 3) := by decide +kernel
theorem dX8_streetBy_48 : decode cX8_streetBy 48 = .ok (.iconst 1, 1) := by decide +kernel
theorem dX8_streetBy_49 : decode cX8_streetBy 49 = .ok (.goto 4, 3) := by decide +kernel
theorem dX8_streetBy_52 : decode cX8_streetBy 52 = .ok (.iconst 0, 1) := by decide +kernel
theorem dX8_streetBy_53 : decode cX8_streetBy 53 = .ok (.istore 5, 2) := by decide +kernel
theorem dX8_streetBy_55 : decode cX8_streetBy 55 = .ok (.iload 5, 2) := by decide +kernel
theorem dX8_streetBy_57 : decode cX8_streetBy 57 = .ok (.ifCond .eq 17, 3) := by decide +kernel
theorem dX8_streetBy_60 : decode cX8_streetBy 60 = .ok (.iload 4, 2) := by decide +kernel
theorem dX8_streetBy_62 : decode cX8_streetBy 62 = .ok (.aload_n 0, 1) := by decide +kernel
theorem dX8_streetBy_63 : decode cX8_streetBy 63 = .ok (.getfield 22, 3) := by decide +kernel
theorem dX8_streetBy_66 : decode cX8_streetBy 66 = .ok (.if_icmp .eq 8, 3) := by decide +kernel
theorem dX8_streetBy_69 : decode cX8_streetBy 69 = .ok (.iload 4, 2) := by decide +kernel
theorem dX8_streetBy_71 : decode cX8_streetBy 71 = .ok (.goto 4, 3) := by decide +kernel
theorem dX8_streetBy_74 : decode cX8_streetBy 74 = .ok (.iload_n 3, 1) := by decide +kernel
theorem dX8_streetBy_75 : decode cX8_streetBy 75 = .ok (.istore_n 3, 1) := by decide +kernel
theorem dX8_streetBy_76 : decode cX8_streetBy 76 = .ok (.iinc 4 (-1), 3) := by decide +kernel
theorem dX8_streetBy_79 : decode cX8_streetBy 79 = .ok (.goto (-66), 3) := by decide +kernel
theorem dX8_streetBy_82 : decode cX8_streetBy 82 = .ok (.iload_n 3, 1) := by decide +kernel
theorem dX8_streetBy_83 : decode cX8_streetBy 83 = .ok (.ireturn, 1) := by decide +kernel
theorem dX8_nextTo_0 : decode cX8_nextTo 0 = .ok (.iconst 0, 1) := by decide +kernel
theorem dX8_nextTo_1 : decode cX8_nextTo 1 = .ok (.istore_n 2, 1) := by decide +kernel
theorem dX8_nextTo_2 : decode cX8_nextTo 2 = .ok (.iconst 0, 1) := by decide +kernel
theorem dX8_nextTo_3 : decode cX8_nextTo 3 = .ok (.istore_n 3, 1) := by decide +kernel
theorem dX8_nextTo_4 : decode cX8_nextTo 4 = .ok (.iload_n 3, 1) := by decide +kernel
theorem dX8_nextTo_5 : decode cX8_nextTo 5 = .ok (.bipush 8, 2) := by decide +kernel
theorem dX8_nextTo_7 : decode cX8_nextTo 7 = .ok (.if_icmp .ge 28, 3) := by decide +kernel
theorem dX8_nextTo_10 : decode cX8_nextTo 10 = .ok (.iload_n 2, 1) := by decide +kernel
theorem dX8_nextTo_11 : decode cX8_nextTo 11 = .ok (.aload_n 0, 1) := by decide +kernel
theorem dX8_nextTo_12 : decode cX8_nextTo 12 = .ok (.iload_n 1, 1) := by decide +kernel
theorem dX8_nextTo_13 : decode cX8_nextTo 13 = .ok (.iload_n 3, 1) := by decide +kernel
theorem dX8_nextTo_14 : decode cX8_nextTo 14 = .ok (.invokevirtual 138, 3) := by decide +kernel
theorem dX8_nextTo_17 : decode cX8_nextTo 17 = .ok (.ifCond .lt 9, 3) := by decide +kernel
theorem dX8_nextTo_20 : decode cX8_nextTo 20 = .ok (.iconst 1, 1) := by decide +kernel
theorem dX8_nextTo_21 : decode cX8_nextTo 21 = .ok (.iload_n 3, 1) := by decide +kernel
theorem dX8_nextTo_22 : decode cX8_nextTo 22 = .ok (.ishl, 1) := by decide +kernel
theorem dX8_nextTo_23 : decode cX8_nextTo 23 = .ok (.goto 4, 3) := by decide +kernel
theorem dX8_nextTo_26 : decode cX8_nextTo 26 = .ok (.iconst 0, 1) := by decide +kernel
theorem dX8_nextTo_27 : decode cX8_nextTo 27 = .ok (.ior, 1) := by decide +kernel
theorem dX8_nextTo_28 : decode cX8_nextTo 28 = .ok (.istore_n 2, 1) := by decide +kernel
theorem dX8_nextTo_29 : decode cX8_nextTo 29 = .ok (.iinc 3 1, 3) := by decide +kernel
theorem dX8_nextTo_32 : decode cX8_nextTo 32 = .ok (.goto (-28), 3) := by decide +kernel
theorem dX8_nextTo_35 : decode cX8_nextTo 35 = .ok (.iload_n 2, 1) := by decide +kernel
theorem dX8_nextTo_36 : decode cX8_nextTo 36 = .ok (.ireturn, 1) := by decide +kernel
theorem dX8_next_0 : decode cX8_next 0 = .ok (.iload_n 1, 1) := by decide +kernel
theorem dX8_next_1 : decode cX8_next 1 = .ok (.invokestatic 98, 3) := by decide +kernel
theorem dX8_next_4 : decode cX8_next 4 = .ok (.ifCond .eq 11, 3) := by decide +kernel
theorem dX8_next_7 : decode cX8_next 7 = .ok (.aload_n 0, 1) := by decide +kernel
theorem dX8_next_8 : decode cX8_next 8 = .ok (.iload_n 1, 1) := by decide +kernel
theorem dX8_next_9 : decode cX8_next 9 = .ok (.invokevirtual 141, 3) := by decide +kernel
theorem dX8_next_12 : decode cX8_next 12 = .ok (.goto 9, 3) := by decide +kernel
theorem dX8_next_15 : decode cX8_next 15 = .ok (.aload_n 0, 1) := by decide +kernel
theorem dX8_next_16 : decode cX8_next 16 = .ok (.ldc 73, 2) := by decide +kernel
theorem dX8_next_18 : decode cX8_next 18 = .ok (.invokevirtual 101, 3) := by decide +kernel
theorem dX8_next_21 : decode cX8_next 21 = .ok (.ireturn, 1) := by decide +kernel
theorem dX8_by_0 : decode cX8_by 0 = .ok (.iload_n 1, 1) := by decide +kernel
theorem dX8_by_1 : decode cX8_by 1 = .ok (.invokestatic 98, 3) := by decide +kernel
theorem dX8_by_4 : decode cX8_by 4 = .ok (.ifCond .eq 15, 3) := by decide +kernel
theorem dX8_by_7 : decode cX8_by 7 = .ok (.iload_n 2, 1) := by decide +kernel
theorem dX8_by_8 : decode cX8_by 8 = .ok (.invokestatic 98, 3) := by decide +kernel
theorem dX8_by_11 : decode cX8_by 11 = .ok (.ifCond .eq 8, 3) := by decide +kernel
theorem dX8_by_14 : decode cX8_by 14 = .ok (.iload_n 1, 1) := by decide +kernel
theorem dX8_by_15 : decode cX8_by 15 = .ok (.iload_n 2, 1) := by decide +kernel
theorem dX8_by_16 : decode cX8_by 16 = .ok (.if_icmp .ne 10, 3) := by decide +kernel
theorem dX8_by_19 : decode cX8_by 19 = .ok (.aload_n 0, 1) := by decide +kernel
theorem dX8_by_20 : decode cX8_by 20 = .ok (.ldc 73, 2) := by decide +kernel
theorem dX8_by_22 : decode cX8_by 22 = .ok (.invokevirtual 101, 3) := by decide +kernel
theorem dX8_by_25 : decode cX8_by 25 = .ok (.ireturn, 1) := by decide +kernel
theorem dX8_by_26 : decode cX8_by 26 = .ok (.aload_n 0, 1) := by decide +kernel
theorem dX8_by_27 : decode cX8_by 27 = .ok (.iload_n 1, 1) := by decide +kernel
theorem dX8_by_28 : decode cX8_by 28 = .ok (.iload_n 2, 1) := by decide +kernel
theorem dX8_by_29 : decode cX8_by 29 = .ok (.invokevirtual 138, 3) := by decide +kernel
theorem dX8_by_32 : decode cX8_by 32 = .ok (.istore_n 3, 1) := by decide +kernel
theorem dX8_by_33 : decode cX8_by 33 = .ok (.iload_n 3, 1) := by decide +kernel
theorem dX8_by_34 : decode cX8_by 34 = .ok (.ifCond .ge 12, 3) := by decide +kernel
theorem dX8_by_37 : decode cX8_by 37 = .ok (.aload_n 0, 1) := by decide +kernel
theorem dX8_by_38 : decode cX8_by 38 = .ok (.ldc 144, 2) := by decide +kernel
theorem dX8_by_40 : decode cX8_by 40 = .ok (.invokevirtual 101, 3) := by decide +kernel
theorem dX8_by_43 : decode cX8_by 43 = .ok (.goto 4, 3) := by decide +kernel
theorem dX8_by_46 : decode cX8_by 46 = .ok (.iload_n 3, 1) := by decide +kernel
theorem dX8_by_47 : decode cX8_by 47 = .ok (.ireturn, 1) := by decide +kernel
theorem dX8_grains_0 : decode cX8_grains 0 = .ok (.iload_n 1, 1) := by decide +kernel
theorem dX8_grains_1 : decode cX8_grains 1 = .ok (.iconst 0, 1) := by decide +kernel
theorem dX8_grains_2 : decode cX8_grains 2 = .ok (.iconst 3, 1) := by decide +kernel
theorem dX8_grains_3 : decode cX8_grains 3 = .ok (.invokestatic 78, 3) := by decide +kernel
theorem dX8_grains_6 : decode cX8_grains 6 = .ok (.ifCond .eq 26, 3) := by decide +kernel
theorem dX8_grains_9 : decode cX8_grains 9 = .ok (.iload_n 2, 1) := by decide +kernel
theorem dX8_grains_10 : decode cX8_grains 10 = .ok (.iconst 0, 1) := by decide +kernel
theorem dX8_grains_11 : decode cX8_grains 11 = .ok (.sipush 9999, 3) := by decide +kernel
theorem dX8_grains_14 : decode cX8_grains 14 = .ok (.invokestatic 78, 3) := by decide +kernel
theorem dX8_grains_17 : decode cX8_grains 17 = .ok (.ifCond .eq 15, 3) := by decide +kernel
theorem dX8_grains_20 : decode cX8_grains 20 = .ok (.aload_n 0, 1) := by decide +kernel
theorem dX8_grains_21 : decode cX8_grains 21 = .ok (.bipush 45, 2) := by decide +kernel
theorem dX8_grains_23 : decode cX8_grains 23 = .ok (.iload_n 1, 1) := by decide +kernel
theorem dX8_grains_24 : decode cX8_grains 24 = .ok (.iadd, 1) := by decide +kernel
theorem dX8_grains_25 : decode cX8_grains 25 = .ok (.iload_n 2, 1) := by decide +kernel
theorem dX8_grains_26 : decode cX8_grains 26 = .ok (.invokevirtual 129, 3) := by decide +kernel
theorem dX8_grains_29 : decode cX8_grains 29 = .ok (.goto 9, 3) := by decide +kernel
theorem dX8_grains_32 : decode cX8_grains 32 = .ok (.aload_n 0, 1) := by decide +kernel
theorem dX8_grains_33 : decode cX8_grains 33 = .ok (.ldc 73, 2) := by decide +kernel
theorem dX8_grains_35 : decode cX8_grains 35 = .ok (.invokevirtual 101, 3) := by decide +kernel
theorem dX8_grains_38 : decode cX8_grains 38 = .ok (.ireturn, 1) := by decide +kernel
theorem dX8_allGrains_0 : decode cX8_allGrains 0 = .ok (.aload_n 0, 1) := by decide +kernel
theorem dX8_allGrains_1 : decode cX8_allGrains 1 = .ok (.getfield 9, 3) := by decide +kernel
theorem dX8_allGrains_4 : decode cX8_allGrains 4 = .ok (.bipush 45, 2) := by decide +kernel
theorem dX8_allGrains_6 : decode cX8_allGrains 6 = .ok (.iaload, 1) := by decide +kernel
theorem dX8_allGrains_7 : decode cX8_allGrains 7 = .ok (.aload_n 0, 1) := by decide +kernel
theorem dX8_allGrains_8 : decode cX8_allGrains 8 = .ok (.getfield 9, 3) := by decide +kernel
theorem dX8_allGrains_11 : decode cX8_allGrains 11 = .ok (.bipush 46, 2) := by decide +kernel
theorem dX8_allGrains_13 : decode cX8_allGrains 13 = .ok (.iaload, 1) := by decide +kernel
theorem dX8_allGrains_14 : decode cX8_allGrains 14 = .ok (.iadd, 1) := by decide +kernel
theorem dX8_allGrains_15 : decode cX8_allGrains 15 = .ok (.aload_n 0, 1) := by decide +kernel
theorem dX8_allGrains_16 : decode cX8_allGrains 16 = .ok (.getfield 9, 3) := by decide +kernel
theorem dX8_allGrains_19 : decode cX8_allGrains 19 = .ok (.bipush 47, 2) := by decide +kernel
theorem dX8_allGrains_21 : decode cX8_allGrains 21 = .ok (.iaload, 1) := by decide +kernel
theorem dX8_allGrains_22 : decode cX8_allGrains 22 = .ok (.iadd, 1) := by decide +kernel
theorem dX8_allGrains_23 : decode cX8_allGrains 23 = .ok (.aload_n 0, 1) := by decide +kernel
theorem dX8_allGrains_24 : decode cX8_allGrains 24 = .ok (.getfield 9, 3) := by decide +kernel
theorem dX8_allGrains_27 : decode cX8_allGrains 27 = .ok (.bipush 48, 2) := by decide +kernel
theorem dX8_allGrains_29 : decode cX8_allGrains 29 = .ok (.iaload, 1) := by decide +kernel
theorem dX8_allGrains_30 : decode cX8_allGrains 30 = .ok (.iadd, 1) := by decide +kernel
theorem dX8_allGrains_31 : decode cX8_allGrains 31 = .ok (.ireturn, 1) := by decide +kernel
theorem dX8_now_0 : decode cX8_now 0 = .ok (.iload_n 1, 1) := by decide +kernel
theorem dX8_now_1 : decode cX8_now 1 = .ok (.iconst 0, 1) := by decide +kernel
theorem dX8_now_2 : decode cX8_now 2 = .ok (.bipush 9, 2) := by decide +kernel
theorem dX8_now_4 : decode cX8_now 4 = .ok (.invokestatic 78, 3) := by decide +kernel
theorem dX8_now_7 : decode cX8_now 7 = .ok (.ifCond .ne 10, 3) := by decide +kernel
theorem dX8_now_10 : decode cX8_now 10 = .ok (.aload_n 0, 1) := by decide +kernel
theorem dX8_now_11 : decode cX8_now 11 = .ok (.ldc 73, 2) := by decide +kernel
theorem dX8_now_13 : decode cX8_now 13 = .ok (.invokevirtual 101, 3) := by decide +kernel
theorem dX8_now_16 : decode cX8_now 16 = .ok (.ireturn, 1) := by decide +kernel
theorem dX8_now_17 : decode cX8_now 17 = .ok (.iload_n 1, 1) := by decide +kernel
theorem dX8_now_18 : decode cX8_now 18 = .ok (.iconst 4, 1) := by decide +kernel
theorem dX8_now_19 : decode cX8_now 19 = .ok (.if_icmp .ge 15, 3) := by decide +kernel
theorem dX8_now_22 : decode cX8_now 22 = .ok (.aload_n 0, 1) := by decide +kernel
theorem dX8_now_23 : decode cX8_now 23 = .ok (.getfield 9, 3) := by decide +kernel
theorem dX8_now_26 : decode cX8_now 26 = .ok (.bipush 45, 2) := by decide +kernel
theorem dX8_now_28 : decode cX8_now 28 = .ok (.iload_n 1, 1) := by decide +kernel
theorem dX8_now_29 : decode cX8_now 29 = .ok (.iadd, 1) := by decide +kernel
theorem dX8_now_30 : decode cX8_now 30 = .ok (.iaload, 1) := by decide +kernel
theorem dX8_now_31 : decode cX8_now 31 = .ok (.goto 42, 3) := by decide +kernel
theorem dX8_now_34 : decode cX8_now 34 = .ok (.iload_n 1, 1) := by decide +kernel
theorem dX8_now_35 : decode cX8_now 35 = .ok (.iconst 4, 1) := by decide +kernel
theorem dX8_now_36 : decode cX8_now 36 = .ok (.if_icmp .ne 10, 3) := by decide +kernel
theorem dX8_now_39 : decode cX8_now 39 = .ok (.aload_n 0, 1) := by decide +kernel
theorem dX8_now_40 : decode cX8_now 40 = .ok (.invokevirtual 145, 3) := by decide +kernel
theorem dX8_now_43 : decode cX8_now 43 = .ok (.goto 30, 3) := by decide +kernel
theorem dX8_now_46 : decode cX8_now 46 = .ok (.iload_n 1, 1) := by decide +kernel
theorem dX8_now_47 : decode cX8_now 47 = .ok (.iconst 5, 1) := by decide +kernel
theorem dX8_now_48 : decode cX8_now 48 = .ok (.if_icmp .ne 13, 3) := by decide +kernel
theorem dX8_now_51 : decode cX8_now 51 = .ok (.aload_n 0, 1) := by decide +kernel
theorem dX8_now_52 : decode cX8_now 52 = .ok (.getfield 9, 3) := by decide +kernel
theorem dX8_now_55 : decode cX8_now 55 = .ok (.bipush 44, 2) := by decide +kernel
theorem dX8_now_57 : decode cX8_now 57 = .ok (.iaload, 1) := by decide +kernel
theorem dX8_now_58 : decode cX8_now 58 = .ok (.goto 15, 3) := by decide +kernel
theorem dX8_now_61 : decode cX8_now 61 = .ok (.aload_n 0, 1) := by decide +kernel
theorem dX8_now_62 : decode cX8_now 62 = .ok (.getfield 9, 3) := by decide +kernel
theorem dX8_now_65 : decode cX8_now 65 = .ok (.bipush 49, 2) := by decide +kernel
theorem dX8_now_67 : decode cX8_now 67 = .ok (.iload_n 1, 1) := by decide +kernel
theorem dX8_now_68 : decode cX8_now 68 = .ok (.iadd, 1) := by decide +kernel
theorem dX8_now_69 : decode cX8_now 69 = .ok (.bipush 6, 2) := by decide +kernel
theorem dX8_now_71 : decode cX8_now 71 = .ok (.isub, 1) := by decide +kernel
theorem dX8_now_72 : decode cX8_now 72 = .ok (.iaload, 1) := by decide +kernel
theorem dX8_now_73 : decode cX8_now 73 = .ok (.ireturn, 1) := by decide +kernel
theorem dX8_made_0 : decode cX8_made 0 = .ok (.iload_n 1, 1) := by decide +kernel
theorem dX8_made_1 : decode cX8_made 1 = .ok (.iconst 0, 1) := by decide +kernel
theorem dX8_made_2 : decode cX8_made 2 = .ok (.iconst 1, 1) := by decide +kernel
theorem dX8_made_3 : decode cX8_made 3 = .ok (.invokestatic 78, 3) := by decide +kernel
theorem dX8_made_6 : decode cX8_made 6 = .ok (.ifCond .eq 13, 3) := by decide +kernel
theorem dX8_made_9 : decode cX8_made 9 = .ok (.aload_n 0, 1) := by decide +kernel
theorem dX8_made_10 : decode cX8_made 10 = .ok (.bipush 44, 2) := by decide +kernel
theorem dX8_made_12 : decode cX8_made 12 = .ok (.iload_n 1, 1) := by decide +kernel
theorem dX8_made_13 : decode cX8_made 13 = .ok (.invokevirtual 129, 3) := by decide +kernel
theorem dX8_made_16 : decode cX8_made 16 = .ok (.goto 9, 3) := by decide +kernel
theorem dX8_made_19 : decode cX8_made 19 = .ok (.aload_n 0, 1) := by decide +kernel
theorem dX8_made_20 : decode cX8_made 20 = .ok (.ldc 73, 2) := by decide +kernel
theorem dX8_made_22 : decode cX8_made 22 = .ok (.invokevirtual 101, 3) := by decide +kernel
theorem dX8_made_25 : decode cX8_made 25 = .ok (.ireturn, 1) := by decide +kernel
theorem dX8_spellOf_0 : decode cX8_spellOf 0 = .ok (.iload_n 0, 1) := by decide +kernel
theorem dX8_spellOf_1 : decode cX8_spellOf 1 = .ok (.bipush 20, 2) := by decide +kernel
theorem dX8_spellOf_3 : decode cX8_spellOf 3 = .ok (.idiv, 1) := by decide +kernel
theorem dX8_spellOf_4 : decode cX8_spellOf 4 = .ok (.bipush 11, 2) := by decide +kernel
theorem dX8_spellOf_6 : decode cX8_spellOf 6 = .ok (.invokestatic 86, 3) := by decide +kernel
theorem dX8_spellOf_9 : decode cX8_spellOf 9 = .ok (.ireturn, 1) := by decide +kernel
theorem dX8_minuteOn_0 : decode cX8_minuteOn 0 = .ok (.aload_n 0, 1) := by decide +kernel
theorem dX8_minuteOn_1 : decode cX8_minuteOn 1 = .ok (.iload_n 1, 1) := by decide +kernel
theorem dX8_minuteOn_2 : decode cX8_minuteOn 2 = .ok (.aload_n 0, 1) := by decide +kernel
theorem dX8_minuteOn_3 : decode cX8_minuteOn 3 = .ok (.getfield 9, 3) := by decide +kernel
theorem dX8_minuteOn_6 : decode cX8_minuteOn 6 = .ok (.bipush 50, 2) := by decide +kernel
theorem dX8_minuteOn_8 : decode cX8_minuteOn 8 = .ok (.iaload, 1) := by decide +kernel
theorem dX8_minuteOn_9 : decode cX8_minuteOn 9 = .ok (.invokestatic 149, 3) := by decide +kernel
theorem dX8_minuteOn_12 : decode cX8_minuteOn 12 = .ok (.invokevirtual 135, 3) := by decide +kernel
theorem dX8_minuteOn_15 : decode cX8_minuteOn 15 = .ok (.istore_n 2, 1) := by decide +kernel
theorem dX8_minuteOn_16 : decode cX8_minuteOn 16 = .ok (.iconst 0, 1) := by decide +kernel
theorem dX8_minuteOn_17 : decode cX8_minuteOn 17 = .ok (.istore_n 3, 1) := by decide +kernel
theorem dX8_minuteOn_18 : decode cX8_minuteOn 18 = .ok (.iload_n 3, 1) := by decide +kernel
theorem dX8_minuteOn_19 : decode cX8_minuteOn 19 = .ok (.iconst 4, 1) := by decide +kernel
theorem dX8_minuteOn_20 : decode cX8_minuteOn 20 = .ok (.if_icmp .ge 55, 3) := by decide +kernel
theorem dX8_minuteOn_23 : decode cX8_minuteOn 23 = .ok (.iload_n 2, 1) := by decide +kernel
theorem dX8_minuteOn_24 : decode cX8_minuteOn 24 = .ok (.aload_n 0, 1) := by decide +kernel
theorem dX8_minuteOn_25 : decode cX8_minuteOn 25 = .ok (.getfield 9, 3) := by decide +kernel
theorem dX8_minuteOn_28 : decode cX8_minuteOn 28 = .ok (.bipush 45, 2) := by decide +kernel
theorem dX8_minuteOn_30 : decode cX8_minuteOn 30 = .ok (.iload_n 3, 1) := by decide +kernel
theorem dX8_minuteOn_31 : decode cX8_minuteOn 31 = .ok (.iadd, 1) := by decide +kernel
theorem dX8_minuteOn_32 : decode cX8_minuteOn 32 = .ok (.iaload, 1) := by decide +kernel
theorem dX8_minuteOn_33 : decode cX8_minuteOn 33 = .ok (.invokestatic 86, 3) := by decide +kernel
theorem dX8_minuteOn_36 : decode cX8_minuteOn 36 = .ok (.istore 4, 2) := by decide +kernel
theorem dX8_minuteOn_38 : decode cX8_minuteOn 38 = .ok (.aload_n 0, 1) := by decide +kernel
theorem dX8_minuteOn_39 : decode cX8_minuteOn 39 = .ok (.getfield 9, 3) := by decide +kernel
theorem dX8_minuteOn_42 : decode cX8_minuteOn 42 = .ok (.bipush 45, 2) := by decide +kernel
theorem dX8_minuteOn_44 : decode cX8_minuteOn 44 = .ok (.iload_n 3, 1) := by decide +kernel
theorem dX8_minuteOn_45 : decode cX8_minuteOn 45 = .ok (.iadd, 1) := by decide +kernel
theorem dX8_minuteOn_46 : decode cX8_minuteOn 46 = .ok (.dup2, 1) := by decide +kernel
theorem dX8_minuteOn_47 : decode cX8_minuteOn 47 = .ok (.iaload, 1) := by decide +kernel
theorem dX8_minuteOn_48 : decode cX8_minuteOn 48 = .ok (.iload 4, 2) := by decide +kernel
theorem dX8_minuteOn_50 : decode cX8_minuteOn 50 = .ok (.isub, 1) := by decide +kernel
theorem dX8_minuteOn_51 : decode cX8_minuteOn 51 = .ok (.iastore, 1) := by decide +kernel
theorem dX8_minuteOn_52 : decode cX8_minuteOn 52 = .ok (.aload_n 0, 1) := by decide +kernel
theorem dX8_minuteOn_53 : decode cX8_minuteOn 53 = .ok (.getfield 9, 3) := by decide +kernel
theorem dX8_minuteOn_56 : decode cX8_minuteOn 56 = .ok (.bipush 52, 2) := by decide +kernel
theorem dX8_minuteOn_58 : decode cX8_minuteOn 58 = .ok (.dup2, 1) := by decide +kernel
theorem dX8_minuteOn_59 : decode cX8_minuteOn 59 = .ok (.iaload, 1) := by decide +kernel
theorem dX8_minuteOn_60 : decode cX8_minuteOn 60 = .ok (.iload 4, 2) := by decide +kernel
theorem dX8_minuteOn_62 : decode cX8_minuteOn 62 = .ok (.iadd, 1) := by decide +kernel
theorem dX8_minuteOn_63 : decode cX8_minuteOn 63 = .ok (.iastore, 1) := by decide +kernel
theorem dX8_minuteOn_64 : decode cX8_minuteOn 64 = .ok (.iload_n 2, 1) := by decide +kernel
theorem dX8_minuteOn_65 : decode cX8_minuteOn 65 = .ok (.iload 4, 2) := by decide +kernel
theorem dX8_minuteOn_67 : decode cX8_minuteOn 67 = .ok (.isub, 1) := by decide +kernel
theorem dX8_minuteOn_68 : decode cX8_minuteOn 68 = .ok (.istore_n 2, 1) := by decide +kernel
theorem dX8_minuteOn_69 : decode cX8_minuteOn 69 = .ok (.iinc 3 1, 3) := by decide +kernel
theorem dX8_minuteOn_72 : decode cX8_minuteOn 72 = .ok (.goto (-54), 3) := by decide +kernel
theorem dX8_minuteOn_75 : decode cX8_minuteOn 75 = .ok (.aload_n 0, 1) := by decide +kernel
theorem dX8_minuteOn_76 : decode cX8_minuteOn 76 = .ok (.getfield 9, 3) := by decide +kernel
theorem dX8_minuteOn_79 : decode cX8_minuteOn 79 = .ok (.bipush 50, 2) := by decide +kernel
theorem dX8_minuteOn_81 : decode cX8_minuteOn 81 = .ok (.dup2, 1) := by decide +kernel
theorem dX8_minuteOn_82 : decode cX8_minuteOn 82 = .ok (.iaload, 1) := by decide +kernel
theorem dX8_minuteOn_83 : decode cX8_minuteOn 83 = .ok (.iconst 1, 1) := by decide +kernel
theorem dX8_minuteOn_84 : decode cX8_minuteOn 84 = .ok (.iadd, 1) := by decide +kernel
theorem dX8_minuteOn_85 : decode cX8_minuteOn 85 = .ok (.iastore, 1) := by decide +kernel
theorem dX8_minuteOn_86 : decode cX8_minuteOn 86 = .ok (.return_, 1) := by decide +kernel
theorem dX8_carried_0 : decode cX8_carried 0 = .ok (.aload_n 0, 1) := by decide +kernel
theorem dX8_carried_1 : decode cX8_carried 1 = .ok (.iload_n 1, 1) := by decide +kernel
theorem dX8_carried_2 : decode cX8_carried 2 = .ok (.invokevirtual 126, 3) := by decide +kernel
theorem dX8_carried_5 : decode cX8_carried 5 = .ok (.istore_n 3, 1) := by decide +kernel
theorem dX8_carried_6 : decode cX8_carried 6 = .ok (.iload_n 3, 1) := by decide +kernel
theorem dX8_carried_7 : decode cX8_carried 7 = .ok (.ifCond .le 14, 3) := by decide +kernel
theorem dX8_carried_10 : decode cX8_carried 10 = .ok (.aload_n 0, 1) := by decide +kernel
theorem dX8_carried_11 : decode cX8_carried 11 = .ok (.iload_n 1, 1) := by decide +kernel
theorem dX8_carried_12 : decode cX8_carried 12 = .ok (.invokevirtual 152, 3) := by decide +kernel
theorem dX8_carried_15 : decode cX8_carried 15 = .ok (.iinc 3 (-1), 3) := by decide +kernel
theorem dX8_carried_18 : decode cX8_carried 18 = .ok (.goto (-12), 3) := by decide +kernel
theorem dX8_carried_21 : decode cX8_carried 21 = .ok (.aload_n 0, 1) := by decide +kernel
theorem dX8_carried_22 : decode cX8_carried 22 = .ok (.getfield 9, 3) := by decide +kernel
theorem dX8_carried_25 : decode cX8_carried 25 = .ok (.bipush 49, 2) := by decide +kernel
theorem dX8_carried_27 : decode cX8_carried 27 = .ok (.iload_n 2, 1) := by decide +kernel
theorem dX8_carried_28 : decode cX8_carried 28 = .ok (.iastore, 1) := by decide +kernel
theorem dX8_carried_29 : decode cX8_carried 29 = .ok (.aload_n 0, 1) := by decide +kernel
theorem dX8_carried_30 : decode cX8_carried 30 = .ok (.getfield 9, 3) := by decide +kernel
theorem dX8_carried_33 : decode cX8_carried 33 = .ok (.bipush 51, 2) := by decide +kernel
theorem dX8_carried_35 : decode cX8_carried 35 = .ok (.dup2, 1) := by decide +kernel
theorem dX8_carried_36 : decode cX8_carried 36 = .ok (.iaload, 1) := by decide +kernel
theorem dX8_carried_37 : decode cX8_carried 37 = .ok (.aload_n 0, 1) := by decide +kernel
theorem dX8_carried_38 : decode cX8_carried 38 = .ok (.getfield 9, 3) := by decide +kernel
theorem dX8_carried_41 : decode cX8_carried 41 = .ok (.bipush 47, 2) := by decide +kernel
theorem dX8_carried_43 : decode cX8_carried 43 = .ok (.iaload, 1) := by decide +kernel
theorem dX8_carried_44 : decode cX8_carried 44 = .ok (.ifCond .le 16, 3) := by decide +kernel
theorem dX8_carried_47 : decode cX8_carried 47 = .ok (.iconst 1, 1) := by decide +kernel
theorem dX8_carried_48 : decode cX8_carried 48 = .ok (.aload_n 0, 1) := by decide +kernel
theorem dX8_carried_49 : decode cX8_carried 49 = .ok (.getfield 9, 3) := by decide +kernel
theorem dX8_carried_52 : decode cX8_carried 52 = .ok (.iconst 0, 1) := by decide +kernel
theorem dX8_carried_53 : decode cX8_carried 53 = .ok (.iload_n 2, 1) := by decide +kernel
theorem dX8_carried_54 : decode cX8_carried 54 = .ok (.iadd, 1) := by decide +kernel
theorem dX8_carried_55 : decode cX8_carried 55 = .ok (.iaload, 1) := by decide +kernel
theorem dX8_carried_56 : decode cX8_carried 56 = .ok (.ishl, 1) := by decide +kernel
theorem dX8_carried_57 : decode cX8_carried 57 = .ok (.goto 4, 3) := by decide +kernel
theorem dX8_carried_60 : decode cX8_carried 60 = .ok (.iconst 0, 1) := by decide +kernel
theorem dX8_carried_61 : decode cX8_carried 61 = .ok (.ior, 1) := by decide +kernel
theorem dX8_carried_62 : decode cX8_carried 62 = .ok (.iastore, 1) := by decide +kernel
theorem dX8_carried_63 : decode cX8_carried 63 = .ok (.return_, 1) := by decide +kernel
theorem dX8_isTooLate_0 : decode cX8_isTooLate 0 = .ok (.aload_n 0, 1) := by decide +kernel
theorem dX8_isTooLate_1 : decode cX8_isTooLate 1 = .ok (.getfield 9, 3) := by decide +kernel
theorem dX8_isTooLate_4 : decode cX8_isTooLate 4 = .ok (.bipush 50, 2) := by decide +kernel
theorem dX8_isTooLate_6 : decode cX8_isTooLate 6 = .ok (.iaload, 1) := by decide +kernel
theorem dX8_isTooLate_7 : decode cX8_isTooLate 7 = .ok (.iload_n 1, 1) := by decide +kernel
theorem dX8_isTooLate_8 : decode cX8_isTooLate 8 = .ok (.iadd, 1) := by decide +kernel
theorem dX8_isTooLate_9 : decode cX8_isTooLate 9 = .ok (.sipush 999, 3) := by decide +kernel
theorem dX8_isTooLate_12 : decode cX8_isTooLate 12 = .ok (.if_icmp .le 7, 3) := by decide +kernel
theorem dX8_isTooLate_15 : decode cX8_isTooLate 15 = .ok (.iconst 1, 1) := by decide +kernel
theorem dX8_isTooLate_16 : decode cX8_isTooLate 16 = .ok (.goto 4, 3) := by decide +kernel
theorem dX8_isTooLate_19 : decode cX8_isTooLate 19 = .ok (.iconst 0, 1) := by decide +kernel
theorem dX8_isTooLate_20 : decode cX8_isTooLate 20 = .ok (.ireturn, 1) := by decide +kernel
theorem dX8_carry_0 : decode cX8_carry 0 = .ok (.iload_n 1, 1) := by decide +kernel
theorem dX8_carry_1 : decode cX8_carry 1 = .ok (.invokestatic 98, 3) := by decide +kernel
theorem dX8_carry_4 : decode cX8_carry 4 = .ok (.ifCond .ne 10, 3) := by decide +kernel
theorem dX8_carry_7 : decode cX8_carry 7 = .ok (.aload_n 0, 1) := by decide +kernel
theorem dX8_carry_8 : decode cX8_carry 8 = .ok (.ldc 73, 2) := by decide +kernel
theorem dX8_carry_10 : decode cX8_carry 10 = .ok (.invokevirtual 101, 3) := by decide +kernel
theorem dX8_carry_13 : decode cX8_carry 13 = .ok (.ireturn, 1) := by decide +kernel
theorem dX8_carry_14 : decode cX8_carry 14 = .ok (.aload_n 0, 1) := by decide +kernel
theorem dX8_carry_15 : decode cX8_carry 15 = .ok (.aload_n 0, 1) := by decide +kernel
theorem dX8_carry_16 : decode cX8_carry 16 = .ok (.getfield 9, 3) := by decide +kernel
theorem dX8_carry_19 : decode cX8_carry 19 = .ok (.bipush 49, 2) := by decide +kernel
theorem dX8_carry_21 : decode cX8_carry 21 = .ok (.iaload, 1) := by decide +kernel
theorem dX8_carry_22 : decode cX8_carry 22 = .ok (.iload_n 1, 1) := by decide +kernel
theorem dX8_carry_23 : decode cX8_carry 23 = .ok (.invokevirtual 138, 3) := by decide +kernel
theorem dX8_carry_26 : decode cX8_carry 26 = .ok (.istore_n 2, 1) := by decide +kernel
theorem dX8_carry_27 : decode cX8_carry 27 = .ok (.iload_n 2, 1) := by decide +kernel
theorem dX8_carry_28 : decode cX8_carry 28 = .ok (.ifCond .ge 10, 3) := by decide +kernel
theorem dX8_carry_31 : decode cX8_carry 31 = .ok (.aload_n 0, 1) := by decide +kernel
theorem dX8_carry_32 : decode cX8_carry 32 = .ok (.ldc 144, 2) := by decide +kernel
theorem dX8_carry_34 : decode cX8_carry 34 = .ok (.invokevirtual 101, 3) := by decide +kernel
theorem dX8_carry_37 : decode cX8_carry 37 = .ok (.ireturn, 1) := by decide +kernel
theorem dX8_carry_38 : decode cX8_carry 38 = .ok (.aload_n 0, 1) := by decide +kernel
theorem dX8_carry_39 : decode cX8_carry 39 = .ok (.aload_n 0, 1) := by decide +kernel
theorem dX8_carry_40 : decode cX8_carry 40 = .ok (.iload_n 2, 1) := by decide +kernel
theorem dX8_carry_41 : decode cX8_carry 41 = .ok (.invokevirtual 126, 3) := by decide +kernel
theorem dX8_carry_44 : decode cX8_carry 44 = .ok (.invokevirtual 156, 3) := by decide +kernel
theorem dX8_carry_47 : decode cX8_carry 47 = .ok (.ifCond .eq 10, 3) := by decide +kernel
theorem dX8_carry_50 : decode cX8_carry 50 = .ok (.aload_n 0, 1) := by decide +kernel
theorem dX8_carry_51 : decode cX8_carry 51 = .ok (.ldc 159, 2) := by decide +kernel
theorem dX8_carry_53 : decode cX8_carry 53 = .ok (.invokevirtual 101, 3) := by decide +kernel
theorem dX8_carry_56 : decode cX8_carry 56 = .ok (.ireturn, 1) := by decide +kernel
theorem dX8_carry_57 : decode cX8_carry 57 = .ok (.aload_n 0, 1) := by decide +kernel
theorem dX8_carry_58 : decode cX8_carry 58 = .ok (.invokevirtual 145, 3) := by decide +kernel
theorem dX8_carry_61 : decode cX8_carry 61 = .ok (.istore_n 3, 1) := by decide +kernel
theorem dX8_carry_62 : decode cX8_carry 62 = .ok (.aload_n 0, 1) := by decide +kernel
theorem dX8_carry_63 : decode cX8_carry 63 = .ok (.iload_n 2, 1) := by decide +kernel
theorem dX8_carry_64 : decode cX8_carry 64 = .ok (.iload_n 1, 1) := by decide +kernel
theorem dX8_carry_65 : decode cX8_carry 65 = .ok (.invokevirtual 160, 3) := by decide +kernel
theorem dX8_carry_68 : decode cX8_carry 68 = .ok (.iload_n 3, 1) := by decide +kernel
theorem dX8_carry_69 : decode cX8_carry 69 = .ok (.aload_n 0, 1) := by decide +kernel
theorem dX8_carry_70 : decode cX8_carry 70 = .ok (.invokevirtual 145, 3) := by decide +kernel
theorem dX8_carry_73 : decode cX8_carry 73 = .ok (.isub, 1) := by decide +kernel
theorem dX8_carry_74 : decode cX8_carry 74 = .ok (.ireturn, 1) := by decide +kernel
theorem dX8_wait_0 : decode cX8_wait 0 = .ok (.iload_n 1, 1) := by decide +kernel
theorem dX8_wait_1 : decode cX8_wait 1 = .ok (.iconst 1, 1) := by decide +kernel
theorem dX8_wait_2 : decode cX8_wait 2 = .ok (.bipush 60, 2) := by decide +kernel
theorem dX8_wait_4 : decode cX8_wait 4 = .ok (.invokestatic 78, 3) := by decide +kernel
theorem dX8_wait_7 : decode cX8_wait 7 = .ok (.ifCond .ne 10, 3) := by decide +kernel
theorem dX8_wait_10 : decode cX8_wait 10 = .ok (.aload_n 0, 1) := by decide +kernel
theorem dX8_wait_11 : decode cX8_wait 11 = .ok (.ldc 73, 2) := by decide +kernel
theorem dX8_wait_13 : decode cX8_wait 13 = .ok (.invokevirtual 101, 3) := by decide +kernel
theorem dX8_wait_16 : decode cX8_wait 16 = .ok (.ireturn, 1) := by decide +kernel
theorem dX8_wait_17 : decode cX8_wait 17 = .ok (.aload_n 0, 1) := by decide +kernel
theorem dX8_wait_18 : decode cX8_wait 18 = .ok (.iload_n 1, 1) := by decide +kernel
theorem dX8_wait_19 : decode cX8_wait 19 = .ok (.invokevirtual 156, 3) := by decide +kernel
theorem dX8_wait_22 : decode cX8_wait 22 = .ok (.ifCond .eq 10, 3) := by decide +kernel
theorem dX8_wait_25 : decode cX8_wait 25 = .ok (.aload_n 0, 1) := by decide +kernel
theorem dX8_wait_26 : decode cX8_wait 26 = .ok (.ldc 159, 2) := by decide +kernel
theorem dX8_wait_28 : decode cX8_wait 28 = .ok (.invokevirtual 101, 3) := by decide +kernel
theorem dX8_wait_31 : decode cX8_wait 31 = .ok (.ireturn, 1) := by decide +kernel
theorem dX8_wait_32 : decode cX8_wait 32 = .ok (.aload_n 0, 1) := by decide +kernel
theorem dX8_wait_33 : decode cX8_wait 33 = .ok (.getfield 9, 3) := by decide +kernel
theorem dX8_wait_36 : decode cX8_wait 36 = .ok (.bipush 50, 2) := by decide +kernel
theorem dX8_wait_38 : decode cX8_wait 38 = .ok (.dup2, 1) := by decide +kernel
theorem dX8_wait_39 : decode cX8_wait 39 = .ok (.iaload, 1) := by decide +kernel
theorem dX8_wait_40 : decode cX8_wait 40 = .ok (.iload_n 1, 1) := by decide +kernel
theorem dX8_wait_41 : decode cX8_wait 41 = .ok (.iadd, 1) := by decide +kernel
theorem dX8_wait_42 : decode cX8_wait 42 = .ok (.iastore, 1) := by decide +kernel
theorem dX8_wait_43 : decode cX8_wait 43 = .ok (.aload_n 0, 1) := by decide +kernel
theorem dX8_wait_44 : decode cX8_wait 44 = .ok (.getfield 9, 3) := by decide +kernel
theorem dX8_wait_47 : decode cX8_wait 47 = .ok (.bipush 50, 2) := by decide +kernel
theorem dX8_wait_49 : decode cX8_wait 49 = .ok (.iaload, 1) := by decide +kernel
theorem dX8_wait_50 : decode cX8_wait 50 = .ok (.ireturn, 1) := by decide +kernel
theorem dX8_day_0 : decode cX8_day 0 = .ok (.aload_n 0, 1) := by decide +kernel
theorem dX8_day_1 : decode cX8_day 1 = .ok (.getfield 9, 3) := by decide +kernel
theorem dX8_day_4 : decode cX8_day 4 = .ok (.bipush 50, 2) := by decide +kernel
theorem dX8_day_6 : decode cX8_day 6 = .ok (.iconst 0, 1) := by decide +kernel
theorem dX8_day_7 : decode cX8_day 7 = .ok (.iastore, 1) := by decide +kernel
theorem dX8_day_8 : decode cX8_day 8 = .ok (.aload_n 0, 1) := by decide +kernel
theorem dX8_day_9 : decode cX8_day 9 = .ok (.getfield 9, 3) := by decide +kernel
theorem dX8_day_12 : decode cX8_day 12 = .ok (.bipush 49, 2) := by decide +kernel
theorem dX8_day_14 : decode cX8_day 14 = .ok (.iconst 0, 1) := by decide +kernel
theorem dX8_day_15 : decode cX8_day 15 = .ok (.iastore, 1) := by decide +kernel
theorem dX8_day_16 : decode cX8_day 16 = .ok (.aload_n 0, 1) := by decide +kernel
theorem dX8_day_17 : decode cX8_day 17 = .ok (.bipush 51, 2) := by decide +kernel
theorem dX8_day_19 : decode cX8_day 19 = .ok (.iconst 0, 1) := by decide +kernel
theorem dX8_day_20 : decode cX8_day 20 = .ok (.invokevirtual 129, 3) := by decide +kernel
theorem dX8_day_23 : decode cX8_day 23 = .ok (.invokestatic 164, 3) := by decide +kernel
theorem dX8_day_26 : decode cX8_day 26 = .ok (.ireturn, 1) := by decide +kernel
theorem dX8_costsOf_0 : decode cX8_costsOf 0 = .ok (.iconst 0, 1) := by decide +kernel
theorem dX8_costsOf_1 : decode cX8_costsOf 1 = .ok (.istore_n 3, 1) := by decide +kernel
theorem dX8_costsOf_2 : decode cX8_costsOf 2 = .ok (.iconst 0, 1) := by decide +kernel
theorem dX8_costsOf_3 : decode cX8_costsOf 3 = .ok (.istore 4, 2) := by decide +kernel
theorem dX8_costsOf_5 : decode cX8_costsOf 5 = .ok (.iload 4, 2) := by decide +kernel
theorem dX8_costsOf_7 : decode cX8_costsOf 7 = .ok (.aload_n 0, 1) := by decide +kernel
theorem dX8_costsOf_8 : decode cX8_costsOf 8 = .ok (.iload_n 1, 1) := by decide +kernel
theorem dX8_costsOf_9 : decode cX8_costsOf 9 = .ok (.invokevirtual 126, 3) := by decide +kernel
theorem dX8_costsOf_12 : decode cX8_costsOf 12 = .ok (.if_icmp .ge 24, 3) := by decide +kernel
theorem dX8_costsOf_15 : decode cX8_costsOf 15 = .ok (.iload_n 3, 1) := by decide +kernel
theorem dX8_costsOf_16 : decode cX8_costsOf 16 = .ok (.aload_n 0, 1) := by decide +kernel
theorem dX8_costsOf_17 : decode cX8_costsOf 17 = .ok (.iload_n 1, 1) := by decide +kernel
theorem dX8_costsOf_18 : decode cX8_costsOf 18 = .ok (.iload_n 2, 1) := by decide +kernel
theorem dX8_costsOf_19 : decode cX8_costsOf 19 = .ok (.iload 4, 2) := by decide +kernel
theorem dX8_costsOf_21 : decode cX8_costsOf 21 = .ok (.iadd, 1) := by decide +kernel
theorem dX8_costsOf_22 : decode cX8_costsOf 22 = .ok (.invokestatic 149, 3) := by decide +kernel
theorem dX8_costsOf_25 : decode cX8_costsOf 25 = .ok (.invokevirtual 135, 3) := by decide +kernel
theorem dX8_costsOf_28 : decode cX8_costsOf 28 = .ok (.iadd, 1) := by decide +kernel
theorem dX8_costsOf_29 : decode cX8_costsOf 29 = .ok (.istore_n 3, 1) := by decide +kernel
theorem dX8_costsOf_30 : decode cX8_costsOf 30 = .ok (.iinc 4 1, 3) := by decide +kernel
theorem dX8_costsOf_33 : decode cX8_costsOf 33 = .ok (.goto (-28), 3) := by decide +kernel
theorem dX8_costsOf_36 : decode cX8_costsOf 36 = .ok (.iload_n 3, 1) := by decide +kernel
theorem dX8_costsOf_37 : decode cX8_costsOf 37 = .ok (.aload_n 0, 1) := by decide +kernel
theorem dX8_costsOf_38 : decode cX8_costsOf 38 = .ok (.invokevirtual 145, 3) := by decide +kernel
theorem dX8_costsOf_41 : decode cX8_costsOf 41 = .ok (.invokestatic 86, 3) := by decide +kernel
theorem dX8_costsOf_44 : decode cX8_costsOf 44 = .ok (.ireturn, 1) := by decide +kernel
theorem dX8_costs_0 : decode cX8_costs 0 = .ok (.aload_n 0, 1) := by decide +kernel
theorem dX8_costs_1 : decode cX8_costs 1 = .ok (.iload_n 1, 1) := by decide +kernel
theorem dX8_costs_2 : decode cX8_costs 2 = .ok (.invokevirtual 123, 3) := by decide +kernel
theorem dX8_costs_5 : decode cX8_costs 5 = .ok (.ifCond .eq 23, 3) := by decide +kernel
theorem dX8_costs_8 : decode cX8_costs 8 = .ok (.iload_n 2, 1) := by decide +kernel
theorem dX8_costs_9 : decode cX8_costs 9 = .ok (.iconst 0, 1) := by decide +kernel
theorem dX8_costs_10 : decode cX8_costs 10 = .ok (.sipush 999, 3) := by decide +kernel
theorem dX8_costs_13 : decode cX8_costs 13 = .ok (.invokestatic 78, 3) := by decide +kernel
theorem dX8_costs_16 : decode cX8_costs 16 = .ok (.ifCond .eq 12, 3) := by decide +kernel
theorem dX8_costs_19 : decode cX8_costs 19 = .ok (.aload_n 0, 1) := by decide +kernel
theorem dX8_costs_20 : decode cX8_costs 20 = .ok (.iload_n 1, 1) := by decide +kernel
theorem dX8_costs_21 : decode cX8_costs 21 = .ok (.iload_n 2, 1) := by decide +kernel
theorem dX8_costs_22 : decode cX8_costs 22 = .ok (.invokevirtual 167, 3) := by decide +kernel
theorem dX8_costs_25 : decode cX8_costs 25 = .ok (.goto 9, 3) := by decide +kernel
theorem dX8_costs_28 : decode cX8_costs 28 = .ok (.aload_n 0, 1) := by decide +kernel
theorem dX8_costs_29 : decode cX8_costs 29 = .ok (.ldc 73, 2) := by decide +kernel
theorem dX8_costs_31 : decode cX8_costs 31 = .ok (.invokevirtual 101, 3) := by decide +kernel
theorem dX8_costs_34 : decode cX8_costs 34 = .ok (.ireturn, 1) := by decide +kernel
theorem dX8_keepAhead_0 : decode cX8_keepAhead 0 = .ok (.iconst 0, 1) := by decide +kernel
theorem dX8_keepAhead_1 : decode cX8_keepAhead 1 = .ok (.istore_n 2, 1) := by decide +kernel
theorem dX8_keepAhead_2 : decode cX8_keepAhead 2 = .ok (.iload_n 2, 1) := by decide +kernel
theorem dX8_keepAhead_3 : decode cX8_keepAhead 3 = .ok (.bipush 8, 2) := by decide +kernel
theorem dX8_keepAhead_5 : decode cX8_keepAhead 5 = .ok (.if_icmp .ge 29, 3) := by decide +kernel
theorem dX8_keepAhead_8 : decode cX8_keepAhead 8 = .ok (.aload_n 0, 1) := by decide +kernel
theorem dX8_keepAhead_9 : decode cX8_keepAhead 9 = .ok (.getfield 26, 3) := by decide +kernel
theorem dX8_keepAhead_12 : decode cX8_keepAhead 12 = .ok (.bipush 8, 2) := by decide +kernel
theorem dX8_keepAhead_14 : decode cX8_keepAhead 14 = .ok (.iload_n 1, 1) := by decide +kernel
theorem dX8_keepAhead_15 : decode cX8_keepAhead 15 = .ok (.imul, 1) := by decide +kernel
theorem dX8_keepAhead_16 : decode cX8_keepAhead 16 = .ok (.iload_n 2, 1) := by decide +kernel
theorem dX8_keepAhead_17 : decode cX8_keepAhead 17 = .ok (.iadd, 1) := by decide +kernel
theorem dX8_keepAhead_18 : decode cX8_keepAhead 18 = .ok (.aload_n 0, 1) := by decide +kernel
theorem dX8_keepAhead_19 : decode cX8_keepAhead 19 = .ok (.getfield 9, 3) := by decide +kernel
theorem dX8_keepAhead_22 : decode cX8_keepAhead 22 = .ok (.bipush 45, 2) := by decide +kernel
theorem dX8_keepAhead_24 : decode cX8_keepAhead 24 = .ok (.iload_n 2, 1) := by decide +kernel
theorem dX8_keepAhead_25 : decode cX8_keepAhead 25 = .ok (.iadd, 1) := by decide +kernel
theorem dX8_keepAhead_26 : decode cX8_keepAhead 26 = .ok (.iaload, 1) := by decide +kernel
theorem dX8_keepAhead_27 : decode cX8_keepAhead 27 = .ok (.iastore, 1) := by decide +kernel
theorem dX8_keepAhead_28 : decode cX8_keepAhead 28 = .ok (.iinc 2 1, 3) := by decide +kernel
theorem dX8_keepAhead_31 : decode cX8_keepAhead 31 = .ok (.goto (-29), 3) := by decide +kernel
theorem dX8_keepAhead_34 : decode cX8_keepAhead 34 = .ok (.return_, 1) := by decide +kernel
theorem dX8_backTo_0 : decode cX8_backTo 0 = .ok (.iconst 0, 1) := by decide +kernel
theorem dX8_backTo_1 : decode cX8_backTo 1 = .ok (.istore_n 2, 1) := by decide +kernel
theorem dX8_backTo_2 : decode cX8_backTo 2 = .ok (.iload_n 2, 1) := by decide +kernel
theorem dX8_backTo_3 : decode cX8_backTo 3 = .ok (.bipush 8, 2) := by decide +kernel
theorem dX8_backTo_5 : decode cX8_backTo 5 = .ok (.if_icmp .ge 29, 3) := by decide +kernel
theorem dX8_backTo_8 : decode cX8_backTo 8 = .ok (.aload_n 0, 1) := by decide +kernel
theorem dX8_backTo_9 : decode cX8_backTo 9 = .ok (.getfield 9, 3) := by decide +kernel
theorem dX8_backTo_12 : decode cX8_backTo 12 = .ok (.bipush 45, 2) := by decide +kernel
theorem dX8_backTo_14 : decode cX8_backTo 14 = .ok (.iload_n 2, 1) := by decide +kernel
theorem dX8_backTo_15 : decode cX8_backTo 15 = .ok (.iadd, 1) := by decide +kernel
theorem dX8_backTo_16 : decode cX8_backTo 16 = .ok (.aload_n 0, 1) := by decide +kernel
theorem dX8_backTo_17 : decode cX8_backTo 17 = .ok (.getfield 26, 3) := by decide +kernel
theorem dX8_backTo_20 : decode cX8_backTo 20 = .ok (.bipush 8, 2) := by decide +kernel
theorem dX8_backTo_22 : decode cX8_backTo 22 = .ok (.iload_n 1, 1) := by decide +kernel
theorem dX8_backTo_23 : decode cX8_backTo 23 = .ok (.imul, 1) := by decide +kernel
theorem dX8_backTo_24 : decode cX8_backTo 24 = .ok (.iload_n 2, 1) := by decide +kernel
theorem dX8_backTo_25 : decode cX8_backTo 25 = .ok (.iadd, 1) := by decide +kernel
theorem dX8_backTo_26 : decode cX8_backTo 26 = .ok (.iaload, 1) := by decide +kernel
theorem dX8_backTo_27 : decode cX8_backTo 27 = .ok (.iastore, 1) := by decide +kernel
theorem dX8_backTo_28 : decode cX8_backTo 28 = .ok (.iinc 2 1, 3) := by decide +kernel
theorem dX8_backTo_31 : decode cX8_backTo 31 = .ok (.goto (-29), 3) := by decide +kernel
theorem dX8_backTo_34 : decode cX8_backTo 34 = .ok (.return_, 1) := by decide +kernel
theorem dX8_isWhole_0 : decode cX8_isWhole 0 = .ok (.aload_n 0, 1) := by decide +kernel
theorem dX8_isWhole_1 : decode cX8_isWhole 1 = .ok (.invokevirtual 145, 3) := by decide +kernel
theorem dX8_isWhole_4 : decode cX8_isWhole 4 = .ok (.istore_n 3, 1) := by decide +kernel
theorem dX8_isWhole_5 : decode cX8_isWhole 5 = .ok (.aload_n 0, 1) := by decide +kernel
theorem dX8_isWhole_6 : decode cX8_isWhole 6 = .ok (.dup, 1) := by decide +kernel
theorem dX8_isWhole_7 : decode cX8_isWhole 7 = .ok (.getfield 170, 3) := by decide +kernel
theorem dX8_isWhole_10 : decode cX8_isWhole 10 = .ok (.iconst 1, 1) := by decide +kernel
theorem dX8_isWhole_11 : decode cX8_isWhole 11 = .ok (.iadd, 1) := by decide +kernel
theorem dX8_isWhole_12 : decode cX8_isWhole 12 = .ok (.putfield 170, 3) := by decide +kernel
theorem dX8_isWhole_15 : decode cX8_isWhole 15 = .ok (.aload_n 0, 1) := by decide +kernel
theorem dX8_isWhole_16 : decode cX8_isWhole 16 = .ok (.aload_n 0, 1) := by decide +kernel
theorem dX8_isWhole_17 : decode cX8_isWhole 17 = .ok (.getfield 173, 3) := by decide +kernel
theorem dX8_isWhole_20 : decode cX8_isWhole 20 = .ok (.iload_n 2, 1) := by decide +kernel
theorem dX8_isWhole_21 : decode cX8_isWhole 21 = .ok (.invokestatic 86, 3) := by decide +kernel
theorem dX8_isWhole_24 : decode cX8_isWhole 24 = .ok (.putfield 173, 3) := by decide +kernel
theorem dX8_isWhole_27 : decode cX8_isWhole 27 = .ok (.iload_n 3, 1) := by decide +kernel
theorem dX8_isWhole_28 : decode cX8_isWhole 28 = .ok (.aload_n 0, 1) := by decide +kernel
theorem dX8_isWhole_29 : decode cX8_isWhole 29 = .ok (.getfield 176, 3) := by decide +kernel
theorem dX8_isWhole_32 : decode cX8_isWhole 32 = .ok (.if_icmp .le 42, 3) := by decide +kernel
theorem dX8_isWhole_35 : decode cX8_isWhole 35 = .ok (.aload_n 0, 1) := by decide +kernel
theorem dX8_isWhole_36 : decode cX8_isWhole 36 = .ok (.iload_n 3, 1) := by decide +kernel
theorem dX8_isWhole_37 : decode cX8_isWhole 37 = .ok (.putfield 176, 3) := by decide +kernel
theorem dX8_isWhole_40 : decode cX8_isWhole 40 = .ok (.aload_n 0, 1) := by decide +kernel
theorem dX8_isWhole_41 : decode cX8_isWhole 41 = .ok (.iload_n 1, 1) := by decide +kernel
theorem dX8_isWhole_42 : decode cX8_isWhole 42 = .ok (.putfield 179, 3) := by decide +kernel
theorem dX8_isWhole_45 : decode cX8_isWhole 45 = .ok (.iconst 0, 1) := by decide +kernel
theorem dX8_isWhole_46 : decode cX8_isWhole 46 = .ok (.istore 4, 2) := by decide +kernel
theorem dX8_isWhole_48 : decode cX8_isWhole 48 = .ok (.iload 4, 2) := by decide +kernel
theorem dX8_isWhole_50 : decode cX8_isWhole 50 = .ok (.iload_n 1, 1) := by decide +kernel
theorem dX8_isWhole_51 : decode cX8_isWhole 51 = .ok (.if_icmp .ge 23, 3) := by decide +kernel
theorem dX8_isWhole_54 : decode cX8_isWhole 54 = .ok (.aload_n 0, 1) := by decide +kernel
theorem dX8_isWhole_55 : decode cX8_isWhole 55 = .ok (.getfield 32, 3) := by decide +kernel
theorem dX8_isWhole_58 : decode cX8_isWhole 58 = .ok (.iload 4, 2) := by decide +kernel
theorem dX8_isWhole_60 : decode cX8_isWhole 60 = .ok (.aload_n 0, 1) := by decide +kernel
theorem dX8_isWhole_61 : decode cX8_isWhole 61 = .ok (.getfield 29, 3) := by decide +kernel
theorem dX8_isWhole_64 : decode cX8_isWhole 64 = .ok (.iload 4, 2) := by decide +kernel
theorem dX8_isWhole_66 : decode cX8_isWhole 66 = .ok (.iaload, 1) := by decide +kernel
theorem dX8_isWhole_67 : decode cX8_isWhole 67 = .ok (.iastore, 1) := by decide +kernel
theorem dX8_isWhole_68 : decode cX8_isWhole 68 = .ok (.iinc 4 1, 3) := by decide +kernel
theorem dX8_isWhole_71 : decode cX8_isWhole 71 = .ok (.goto (-23), 3) := by decide +kernel
theorem dX8_isWhole_74 : decode cX8_isWhole 74 = .ok (.return_, 1) := by decide +kernel
theorem dX8_none_0 : decode cX8_none 0 = .ok (.aload_n 0, 1) := by decide +kernel
theorem dX8_none_1 : decode cX8_none 1 = .ok (.iconst 0, 1) := by decide +kernel
theorem dX8_none_2 : decode cX8_none 2 = .ok (.putfield 170, 3) := by decide +kernel
theorem dX8_none_5 : decode cX8_none 5 = .ok (.aload_n 0, 1) := by decide +kernel
theorem dX8_none_6 : decode cX8_none 6 = .ok (.iconst (-1), 1) := by decide +kernel
theorem dX8_none_7 : decode cX8_none 7 = .ok (.putfield 176, 3) := by decide +kernel
theorem dX8_none_10 : decode cX8_none 10 = .ok (.aload_n 0, 1) := by decide +kernel
theorem dX8_none_11 : decode cX8_none 11 = .ok (.iconst 0, 1) := by decide +kernel
theorem dX8_none_12 : decode cX8_none 12 = .ok (.putfield 179, 3) := by decide +kernel
theorem dX8_none_15 : decode cX8_none 15 = .ok (.aload_n 0, 1) := by decide +kernel
theorem dX8_none_16 : decode cX8_none 16 = .ok (.sipush 999, 3) := by decide +kernel
theorem dX8_none_19 : decode cX8_none 19 = .ok (.putfield 173, 3) := by decide +kernel
theorem dX8_none_22 : decode cX8_none 22 = .ok (.return_, 1) := by decide +kernel
theorem dX8_waysOn_0 : decode cX8_waysOn 0 = .ok (.aload_n 0, 1) := by decide +kernel
theorem dX8_waysOn_1 : decode cX8_waysOn 1 = .ok (.getfield 9, 3) := by decide +kernel
theorem dX8_waysOn_4 : decode cX8_waysOn 4 = .ok (.bipush 49, 2) := by decide +kernel
theorem dX8_waysOn_6 : decode cX8_waysOn 6 = .ok (.iaload, 1) := by decide +kernel
theorem dX8_waysOn_7 : decode cX8_waysOn 7 = .ok (.iload_n 1, 1) := by decide +kernel
theorem dX8_waysOn_8 : decode cX8_waysOn 8 = .ok (.if_icmp .ne 19, 3) := by decide +kernel
theorem dX8_waysOn_11 : decode cX8_waysOn 11 = .ok (.aload_n 0, 1) := by decide +kernel
theorem dX8_waysOn_12 : decode cX8_waysOn 12 = .ok (.iload_n 3, 1) := by decide +kernel
theorem dX8_waysOn_13 : decode cX8_waysOn 13 = .ok (.aload_n 0, 1) := by decide +kernel
theorem dX8_waysOn_14 : decode cX8_waysOn 14 = .ok (.getfield 9, 3) := by decide +kernel
theorem dX8_waysOn_17 : decode cX8_waysOn 17 = .ok (.bipush 50, 2) := by decide +kernel
theorem dX8_waysOn_19 : decode cX8_waysOn 19 = .ok (.iaload, 1) := by decide +kernel
theorem dX8_waysOn_20 : decode cX8_waysOn 20 = .ok (.iload 4, 2) := by decide +kernel
theorem dX8_waysOn_22 : decode cX8_waysOn 22 = .ok (.isub, 1) := by decide +kernel
theorem dX8_waysOn_23 : decode cX8_waysOn 23 = .ok (.invokevirtual 182, 3) := by decide +kernel
theorem dX8_waysOn_26 : decode cX8_waysOn 26 = .ok (.return_, 1) := by decide +kernel
theorem dX8_waysOn_27 : decode cX8_waysOn 27 = .ok (.iconst 0, 1) := by decide +kernel
theorem dX8_waysOn_28 : decode cX8_waysOn 28 = .ok (.istore 5, 2) := by decide +kernel
theorem dX8_waysOn_30 : decode cX8_waysOn 30 = .ok (.iload 5, 2) := by decide +kernel
theorem dX8_waysOn_32 : decode cX8_waysOn 32 = .ok (.bipush 8, 2) := by decide +kernel
theorem dX8_waysOn_34 : decode cX8_waysOn 34 = .ok (.if_icmp .ge 84, 3) := by decide +kernel
theorem dX8_waysOn_37 : decode cX8_waysOn 37 = .ok (.iload_n 2, 1) := by decide +kernel
theorem dX8_waysOn_38 : decode cX8_waysOn 38 = .ok (.iload 5, 2) := by decide +kernel
theorem dX8_waysOn_40 : decode cX8_waysOn 40 = .ok (.invokestatic 185, 3) := by decide +kernel
theorem dX8_waysOn_43 : decode cX8_waysOn 43 = .ok (.ifCond .eq 7, 3) := by decide +kernel
theorem dX8_waysOn_46 : decode cX8_waysOn 46 = .ok (.iconst (-1), 1) := by decide +kernel
theorem dX8_waysOn_47 : decode cX8_waysOn 47 = .ok (.goto 16, 3) := by decide +kernel
theorem dX8_waysOn_50 : decode cX8_waysOn 50 = .ok (.aload_n 0, 1) := by decide +kernel
theorem dX8_waysOn_51 : decode cX8_waysOn 51 = .ok (.aload_n 0, 1) := by decide +kernel
theorem dX8_waysOn_52 : decode cX8_waysOn 52 = .ok (.getfield 9, 3) := by decide +kernel
theorem dX8_waysOn_55 : decode cX8_waysOn 55 = .ok (.bipush 49, 2) := by decide +kernel
theorem dX8_waysOn_57 : decode cX8_waysOn 57 = .ok (.iaload, 1) := by decide +kernel
theorem dX8_waysOn_58 : decode cX8_waysOn 58 = .ok (.iload 5, 2) := by decide +kernel
theorem dX8_waysOn_60 : decode cX8_waysOn 60 = .ok (.invokevirtual 138, 3) := by decide +kernel
theorem dX8_waysOn_63 : decode cX8_waysOn 63 = .ok (.istore 6, 2) := by decide +kernel
theorem dX8_waysOn_65 : decode cX8_waysOn 65 = .ok (.iload 6, 2) := by decide +kernel
theorem dX8_waysOn_67 : decode cX8_waysOn 67 = .ok (.ifCond .lt 45, 3) := by decide +kernel
theorem dX8_waysOn_70 : decode cX8_waysOn 70 = .ok (.aload_n 0, 1) := by decide +kernel
theorem dX8_waysOn_71 : decode cX8_waysOn 71 = .ok (.iload_n 3, 1) := by decide +kernel
theorem dX8_waysOn_72 : decode cX8_waysOn 72 = .ok (.invokevirtual 188, 3) := by decide +kernel
theorem dX8_waysOn_75 : decode cX8_waysOn 75 = .ok (.aload_n 0, 1) := by decide +kernel
theorem dX8_waysOn_76 : decode cX8_waysOn 76 = .ok (.iload 6, 2) := by decide +kernel
theorem dX8_waysOn_78 : decode cX8_waysOn 78 = .ok (.iload 5, 2) := by decide +kernel
theorem dX8_waysOn_80 : decode cX8_waysOn 80 = .ok (.invokevirtual 160, 3) := by decide +kernel
theorem dX8_waysOn_83 : decode cX8_waysOn 83 = .ok (.aload_n 0, 1) := by decide +kernel
theorem dX8_waysOn_84 : decode cX8_waysOn 84 = .ok (.getfield 29, 3) := by decide +kernel
theorem dX8_waysOn_87 : decode cX8_waysOn 87 = .ok (.iload_n 3, 1) := by decide +kernel
theorem dX8_waysOn_88 : decode cX8_waysOn 88 = .ok (.iload 5, 2) := by decide +kernel
theorem dX8_waysOn_90 : decode cX8_waysOn 90 = .ok (.iastore, 1) := by decide +kernel
theorem dX8_waysOn_91 : decode cX8_waysOn 91 = .ok (.aload_n 0, 1) := by decide +kernel
theorem dX8_waysOn_92 : decode cX8_waysOn 92 = .ok (.iload_n 1, 1) := by decide +kernel
theorem dX8_waysOn_93 : decode cX8_waysOn 93 = .ok (.iload_n 2, 1) := by decide +kernel
theorem dX8_waysOn_94 : decode cX8_waysOn 94 = .ok (.iconst 1, 1) := by decide +kernel
theorem dX8_waysOn_95 : decode cX8_waysOn 95 = .ok (.iload 5, 2) := by decide +kernel
theorem dX8_waysOn_97 : decode cX8_waysOn 97 = .ok (.ishl, 1) := by decide +kernel
theorem dX8_waysOn_98 : decode cX8_waysOn 98 = .ok (.ior, 1) := by decide +kernel
theorem dX8_waysOn_99 : decode cX8_waysOn 99 = .ok (.iload_n 3, 1) := by decide +kernel
theorem dX8_waysOn_100 : decode cX8_waysOn 100 = .ok (.iconst 1, 1) := by decide +kernel
theorem dX8_waysOn_101 : decode cX8_waysOn 101 = .ok (.iadd, 1) := by decide +kernel
theorem dX8_waysOn_102 : decode cX8_waysOn 102 = .ok (.iload 4, 2) := by decide +kernel
theorem dX8_waysOn_104 : decode cX8_waysOn 104 = .ok (.invokevirtual 191, 3) := by decide +kernel
theorem dX8_waysOn_107 : decode cX8_waysOn 107 = .ok (.aload_n 0, 1) := by decide +kernel
theorem dX8_waysOn_108 : decode cX8_waysOn 108 = .ok (.iload_n 3, 1) := by decide +kernel
theorem dX8_waysOn_109 : decode cX8_waysOn 109 = .ok (.invokevirtual 195, 3) := by decide +kernel
theorem dX8_waysOn_112 : decode cX8_waysOn 112 = .ok (.iinc 5 1, 3) := by decide +kernel
theorem dX8_waysOn_115 : decode cX8_waysOn 115 = .ok (.goto (-85), 3) := by decide +kernel
theorem dX8_waysOn_118 : decode cX8_waysOn 118 = .ok (.return_, 1) := by decide +kernel
theorem dX8_findWays_0 : decode cX8_findWays 0 = .ok (.aload_n 0, 1) := by decide +kernel
theorem dX8_findWays_1 : decode cX8_findWays 1 = .ok (.invokevirtual 198, 3) := by decide +kernel
theorem dX8_findWays_4 : decode cX8_findWays 4 = .ok (.aload_n 0, 1) := by decide +kernel
theorem dX8_findWays_5 : decode cX8_findWays 5 = .ok (.iload_n 1, 1) := by decide +kernel
theorem dX8_findWays_6 : decode cX8_findWays 6 = .ok (.iconst 1, 1) := by decide +kernel
theorem dX8_findWays_7 : decode cX8_findWays 7 = .ok (.aload_n 0, 1) := by decide +kernel
theorem dX8_findWays_8 : decode cX8_findWays 8 = .ok (.getfield 9, 3) := by decide +kernel
theorem dX8_findWays_11 : decode cX8_findWays 11 = .ok (.bipush 49, 2) := by decide +kernel
theorem dX8_findWays_13 : decode cX8_findWays 13 = .ok (.iaload, 1) := by decide +kernel
theorem dX8_findWays_14 : decode cX8_findWays 14 = .ok (.ishl, 1) := by decide +kernel
theorem dX8_findWays_15 : decode cX8_findWays 15 = .ok (.iconst 0, 1) := by decide +kernel
theorem dX8_findWays_16 : decode cX8_findWays 16 = .ok (.aload_n 0, 1) := by decide +kernel
theorem dX8_findWays_17 : decode cX8_findWays 17 = .ok (.getfield 9, 3) := by decide +kernel
theorem dX8_findWays_20 : decode cX8_findWays 20 = .ok (.bipush 50, 2) := by decide +kernel
theorem dX8_findWays_22 : decode cX8_findWays 22 = .ok (.iaload, 1) := by decide +kernel
theorem dX8_findWays_23 : decode cX8_findWays 23 = .ok (.invokevirtual 191, 3) := by decide +kernel
theorem dX8_findWays_26 : decode cX8_findWays 26 = .ok (.return_, 1) := by decide +kernel
theorem dX8_isLate_0 : decode cX8_isLate 0 = .ok (.aload_n 0, 1) := by decide +kernel
theorem dX8_isLate_1 : decode cX8_isLate 1 = .ok (.getfield 9, 3) := by decide +kernel
theorem dX8_isLate_4 : decode cX8_isLate 4 = .ok (.bipush 50, 2) := by decide +kernel
theorem dX8_isLate_6 : decode cX8_isLate 6 = .ok (.iaload, 1) := by decide +kernel
theorem dX8_isLate_7 : decode cX8_isLate 7 = .ok (.sipush 700, 3) := by decide +kernel
theorem dX8_isLate_10 : decode cX8_isLate 10 = .ok (.if_icmp .le 7, 3) := by decide +kernel
theorem dX8_isLate_13 : decode cX8_isLate 13 = .ok (.iconst 1, 1) := by decide +kernel
theorem dX8_isLate_14 : decode cX8_isLate 14 = .ok (.goto 4, 3) := by decide +kernel
theorem dX8_isLate_17 : decode cX8_isLate 17 = .ok (.iconst 0, 1) := by decide +kernel
theorem dX8_isLate_18 : decode cX8_isLate 18 = .ok (.ireturn, 1) := by decide +kernel
theorem dX8_refusesWays_0 : decode cX8_refusesWays 0 = .ok (.iload_n 1, 1) := by decide +kernel
theorem dX8_refusesWays_1 : decode cX8_refusesWays 1 = .ok (.invokestatic 98, 3) := by decide +kernel
theorem dX8_refusesWays_4 : decode cX8_refusesWays 4 = .ok (.ifCond .ne 6, 3) := by decide +kernel
theorem dX8_refusesWays_7 : decode cX8_refusesWays 7 = .ok (.ldc 73, 2) := by decide +kernel
theorem dX8_refusesWays_9 : decode cX8_refusesWays 9 = .ok (.ireturn, 1) := by decide +kernel
theorem dX8_refusesWays_10 : decode cX8_refusesWays 10 = .ok (.aload_n 0, 1) := by decide +kernel
theorem dX8_refusesWays_11 : decode cX8_refusesWays 11 = .ok (.invokevirtual 201, 3) := by decide +kernel
theorem dX8_refusesWays_14 : decode cX8_refusesWays 14 = .ok (.ifCond .eq 6, 3) := by decide +kernel
theorem dX8_refusesWays_17 : decode cX8_refusesWays 17 = .ok (.ldc 159, 2) := by decide +kernel
theorem dX8_refusesWays_19 : decode cX8_refusesWays 19 = .ok (.ireturn, 1) := by decide +kernel
theorem dX8_refusesWays_20 : decode cX8_refusesWays 20 = .ok (.aload_n 0, 1) := by decide +kernel
theorem dX8_refusesWays_21 : decode cX8_refusesWays 21 = .ok (.iload_n 1, 1) := by decide +kernel
theorem dX8_refusesWays_22 : decode cX8_refusesWays 22 = .ok (.invokevirtual 205, 3) := by decide +kernel
theorem dX8_refusesWays_25 : decode cX8_refusesWays 25 = .ok (.aload_n 0, 1) := by decide +kernel
theorem dX8_refusesWays_26 : decode cX8_refusesWays 26 = .ok (.getfield 170, 3) := by decide +kernel
theorem dX8_refusesWays_29 : decode cX8_refusesWays 29 = .ok (.ifCond .ne 8, 3) := by decide +kernel
theorem dX8_refusesWays_32 : decode cX8_refusesWays 32 = .ok (.ldc 144, 2) := by decide +kernel
theorem dX8_refusesWays_34 : decode cX8_refusesWays 34 = .ok (.goto 4, 3) := by decide +kernel
theorem dX8_refusesWays_37 : decode cX8_refusesWays 37 = .ok (.iconst 0, 1) := by decide +kernel
theorem dX8_refusesWays_38 : decode cX8_refusesWays 38 = .ok (.ireturn, 1) := by decide +kernel
theorem dX8_most_0 : decode cX8_most 0 = .ok (.aload_n 0, 1) := by decide +kernel
theorem dX8_most_1 : decode cX8_most 1 = .ok (.iload_n 1, 1) := by decide +kernel
theorem dX8_most_2 : decode cX8_most 2 = .ok (.invokevirtual 208, 3) := by decide +kernel
theorem dX8_most_5 : decode cX8_most 5 = .ok (.istore_n 2, 1) := by decide +kernel
theorem dX8_most_6 : decode cX8_most 6 = .ok (.iload_n 2, 1) := by decide +kernel
theorem dX8_most_7 : decode cX8_most 7 = .ok (.ifCond .eq 11, 3) := by decide +kernel
theorem dX8_most_10 : decode cX8_most 10 = .ok (.aload_n 0, 1) := by decide +kernel
theorem dX8_most_11 : decode cX8_most 11 = .ok (.iload_n 2, 1) := by decide +kernel
theorem dX8_most_12 : decode cX8_most 12 = .ok (.invokevirtual 101, 3) := by decide +kernel
theorem dX8_most_15 : decode cX8_most 15 = .ok (.goto 7, 3) := by decide +kernel
theorem dX8_most_18 : decode cX8_most 18 = .ok (.aload_n 0, 1) := by decide +kernel
theorem dX8_most_19 : decode cX8_most 19 = .ok (.getfield 176, 3) := by decide +kernel
theorem dX8_most_22 : decode cX8_most 22 = .ok (.ireturn, 1) := by decide +kernel
theorem dX8_isPlace_0 : decode cX8_isPlace 0 = .ok (.iload_n 0, 1) := by decide +kernel
theorem dX8_isPlace_1 : decode cX8_isPlace 1 = .ok (.iconst 0, 1) := by decide +kernel
theorem dX8_isPlace_2 : decode cX8_isPlace 2 = .ok (.bipush 6, 2) := by decide +kernel
theorem dX8_isPlace_4 : decode cX8_isPlace 4 = .ok (.invokestatic 78, 3) := by decide +kernel
theorem dX8_isPlace_7 : decode cX8_isPlace 7 = .ok (.ireturn, 1) := by decide +kernel
theorem dX8_way_0 : decode cX8_way 0 = .ok (.iload_n 2, 1) := by decide +kernel
theorem dX8_way_1 : decode cX8_way 1 = .ok (.invokestatic 211, 3) := by decide +kernel
theorem dX8_way_4 : decode cX8_way 4 = .ok (.ifCond .eq 11, 3) := by decide +kernel
theorem dX8_way_7 : decode cX8_way 7 = .ok (.aload_n 0, 1) := by decide +kernel
theorem dX8_way_8 : decode cX8_way 8 = .ok (.iload_n 1, 1) := by decide +kernel
theorem dX8_way_9 : decode cX8_way 9 = .ok (.invokevirtual 208, 3) := by decide +kernel
theorem dX8_way_12 : decode cX8_way 12 = .ok (.goto 5, 3) := by decide +kernel
theorem dX8_way_15 : decode cX8_way 15 = .ok (.ldc 73, 2) := by decide +kernel
theorem dX8_way_17 : decode cX8_way 17 = .ok (.istore_n 3, 1) := by decide +kernel
theorem dX8_way_18 : decode cX8_way 18 = .ok (.iload_n 3, 1) := by decide +kernel
theorem dX8_way_19 : decode cX8_way 19 = .ok (.ifCond .eq 9, 3) := by decide +kernel
theorem dX8_way_22 : decode cX8_way 22 = .ok (.aload_n 0, 1) := by decide +kernel
theorem dX8_way_23 : decode cX8_way 23 = .ok (.iload_n 3, 1) := by decide +kernel
theorem dX8_way_24 : decode cX8_way 24 = .ok (.invokevirtual 101, 3) := by decide +kernel
theorem dX8_way_27 : decode cX8_way 27 = .ok (.ireturn, 1) := by decide +kernel
theorem dX8_way_28 : decode cX8_way 28 = .ok (.iload_n 2, 1) := by decide +kernel
theorem dX8_way_29 : decode cX8_way 29 = .ok (.aload_n 0, 1) := by decide +kernel
theorem dX8_way_30 : decode cX8_way 30 = .ok (.getfield 179, 3) := by decide +kernel
theorem dX8_way_33 : decode cX8_way 33 = .ok (.if_icmp .ge 12, 3) := by decide +kernel
theorem dX8_way_36 : decode cX8_way 36 = .ok (.aload_n 0, 1) := by decide +kernel
theorem dX8_way_37 : decode cX8_way 37 = .ok (.getfield 32, 3) := by decide +kernel
theorem dX8_way_40 : decode cX8_way 40 = .ok (.iload_n 2, 1) := by decide +kernel
theorem dX8_way_41 : decode cX8_way 41 = .ok (.iaload, 1) := by decide +kernel
theorem dX8_way_42 : decode cX8_way 42 = .ok (.goto 9, 3) := by decide +kernel
theorem dX8_way_45 : decode cX8_way 45 = .ok (.aload_n 0, 1) := by decide +kernel
theorem dX8_way_46 : decode cX8_way 46 = .ok (.ldc 144, 2) := by decide +kernel
theorem dX8_way_48 : decode cX8_way 48 = .ok (.invokevirtual 101, 3) := by decide +kernel
theorem dX8_way_51 : decode cX8_way 51 = .ok (.ireturn, 1) := by decide +kernel
theorem dX8_soonest_0 : decode cX8_soonest 0 = .ok (.aload_n 0, 1) := by decide +kernel
theorem dX8_soonest_1 : decode cX8_soonest 1 = .ok (.iload_n 1, 1) := by decide +kernel
theorem dX8_soonest_2 : decode cX8_soonest 2 = .ok (.invokevirtual 208, 3) := by decide +kernel
theorem dX8_soonest_5 : decode cX8_soonest 5 = .ok (.istore_n 2, 1) := by decide +kernel
theorem dX8_soonest_6 : decode cX8_soonest 6 = .ok (.iload_n 2, 1) := by decide +kernel
theorem dX8_soonest_7 : decode cX8_soonest 7 = .ok (.ifCond .eq 11, 3) := by decide +kernel
theorem dX8_soonest_10 : decode cX8_soonest 10 = .ok (.aload_n 0, 1) := by decide +kernel
theorem dX8_soonest_11 : decode cX8_soonest 11 = .ok (.iload_n 2, 1) := by decide +kernel
theorem dX8_soonest_12 : decode cX8_soonest 12 = .ok (.invokevirtual 101, 3) := by decide +kernel
theorem dX8_soonest_15 : decode cX8_soonest 15 = .ok (.goto 7, 3) := by decide +kernel
theorem dX8_soonest_18 : decode cX8_soonest 18 = .ok (.aload_n 0, 1) := by decide +kernel
theorem dX8_soonest_19 : decode cX8_soonest 19 = .ok (.getfield 173, 3) := by decide +kernel
theorem dX8_soonest_22 : decode cX8_soonest 22 = .ok (.ireturn, 1) := by decide +kernel
theorem dX8_ways_0 : decode cX8_ways 0 = .ok (.iload_n 1, 1) := by decide +kernel
theorem dX8_ways_1 : decode cX8_ways 1 = .ok (.invokestatic 98, 3) := by decide +kernel
theorem dX8_ways_4 : decode cX8_ways 4 = .ok (.ifCond .ne 10, 3) := by decide +kernel
theorem dX8_ways_7 : decode cX8_ways 7 = .ok (.aload_n 0, 1) := by decide +kernel
theorem dX8_ways_8 : decode cX8_ways 8 = .ok (.ldc 73, 2) := by decide +kernel
theorem dX8_ways_10 : decode cX8_ways 10 = .ok (.invokevirtual 101, 3) := by decide +kernel
theorem dX8_ways_13 : decode cX8_ways 13 = .ok (.ireturn, 1) := by decide +kernel
theorem dX8_ways_14 : decode cX8_ways 14 = .ok (.aload_n 0, 1) := by decide +kernel
theorem dX8_ways_15 : decode cX8_ways 15 = .ok (.iload_n 1, 1) := by decide +kernel
theorem dX8_ways_16 : decode cX8_ways 16 = .ok (.invokevirtual 205, 3) := by decide +kernel
theorem dX8_ways_19 : decode cX8_ways 19 = .ok (.aload_n 0, 1) := by decide +kernel
theorem dX8_ways_20 : decode cX8_ways 20 = .ok (.getfield 170, 3) := by decide +kernel
theorem dX8_ways_23 : decode cX8_ways 23 = .ok (.ireturn, 1) := by decide +kernel
theorem dX8_due_0 : decode cX8_due 0 = .ok (.iconst 0, 1) := by decide +kernel
theorem dX8_due_1 : decode cX8_due 1 = .ok (.istore_n 1, 1) := by decide +kernel
theorem dX8_due_2 : decode cX8_due 2 = .ok (.iconst 0, 1) := by decide +kernel
theorem dX8_due_3 : decode cX8_due 3 = .ok (.istore_n 2, 1) := by decide +kernel
theorem dX8_due_4 : decode cX8_due 4 = .ok (.iload_n 2, 1) := by decide +kernel
theorem dX8_due_5 : decode cX8_due 5 = .ok (.aload_n 0, 1) := by decide +kernel
theorem dX8_due_6 : decode cX8_due 6 = .ok (.getfield 9, 3) := by decide +kernel
theorem dX8_due_9 : decode cX8_due 9 = .ok (.bipush 8, 2) := by decide +kernel
theorem dX8_due_11 : decode cX8_due 11 = .ok (.iaload, 1) := by decide +kernel
theorem dX8_due_12 : decode cX8_due 12 = .ok (.if_icmp .ge 43, 3) := by decide +kernel
theorem dX8_due_15 : decode cX8_due 15 = .ok (.iload_n 1, 1) := by decide +kernel
theorem dX8_due_16 : decode cX8_due 16 = .ok (.iconst 1, 1) := by decide +kernel
theorem dX8_due_17 : decode cX8_due 17 = .ok (.aload_n 0, 1) := by decide +kernel
theorem dX8_due_18 : decode cX8_due 18 = .ok (.getfield 9, 3) := by decide +kernel
theorem dX8_due_21 : decode cX8_due 21 = .ok (.iconst 0, 1) := by decide +kernel
theorem dX8_due_22 : decode cX8_due 22 = .ok (.aload_n 0, 1) := by decide +kernel
theorem dX8_due_23 : decode cX8_due 23 = .ok (.iload_n 2, 1) := by decide +kernel
theorem dX8_due_24 : decode cX8_due 24 = .ok (.iconst 1, 1) := by decide +kernel
theorem dX8_due_25 : decode cX8_due 25 = .ok (.invokevirtual 113, 3) := by decide +kernel
theorem dX8_due_28 : decode cX8_due 28 = .ok (.iadd, 1) := by decide +kernel
theorem dX8_due_29 : decode cX8_due 29 = .ok (.iaload, 1) := by decide +kernel
theorem dX8_due_30 : decode cX8_due 30 = .ok (.ishl, 1) := by decide +kernel
theorem dX8_due_31 : decode cX8_due 31 = .ok (.iconst 1, 1) := by decide +kernel
theorem dX8_due_32 : decode cX8_due 32 = .ok (.aload_n 0, 1) := by decide +kernel
theorem dX8_due_33 : decode cX8_due 33 = .ok (.getfield 9, 3) := by decide +kernel
theorem dX8_due_36 : decode cX8_due 36 = .ok (.iconst 0, 1) := by decide +kernel
theorem dX8_due_37 : decode cX8_due 37 = .ok (.aload_n 0, 1) := by decide +kernel
theorem dX8_due_38 : decode cX8_due 38 = .ok (.iload_n 2, 1) := by decide +kernel
theorem dX8_due_39 : decode cX8_due 39 = .ok (.iconst 2, 1) := by decide +kernel
theorem dX8_due_40 : decode cX8_due 40 = .ok (.invokevirtual 113, 3) := by decide +kernel
theorem dX8_due_43 : decode cX8_due 43 = .ok (.iadd, 1) := by decide +kernel
theorem dX8_due_44 : decode cX8_due 44 = .ok (.iaload, 1) := by decide +kernel
theorem dX8_due_45 : decode cX8_due 45 = .ok (.ishl, 1) := by decide +kernel
theorem dX8_due_46 : decode cX8_due 46 = .ok (.ior, 1) := by decide +kernel
theorem dX8_due_47 : decode cX8_due 47 = .ok (.ior, 1) := by decide +kernel
theorem dX8_due_48 : decode cX8_due 48 = .ok (.istore_n 1, 1) := by decide +kernel
theorem dX8_due_49 : decode cX8_due 49 = .ok (.iinc 2 1, 3) := by decide +kernel
theorem dX8_due_52 : decode cX8_due 52 = .ok (.goto (-48), 3) := by decide +kernel
theorem dX8_due_55 : decode cX8_due 55 = .ok (.iload_n 1, 1) := by decide +kernel
theorem dX8_due_56 : decode cX8_due 56 = .ok (.ireturn, 1) := by decide +kernel
theorem dX8_roundsOn_0 : decode cX8_roundsOn 0 = .ok (.iload_n 3, 1) := by decide +kernel
theorem dX8_roundsOn_1 : decode cX8_roundsOn 1 = .ok (.ifCond .ne 7, 3) := by decide +kernel
theorem dX8_roundsOn_4 : decode cX8_roundsOn 4 = .ok (.iconst (-1), 1) := by decide +kernel
theorem dX8_roundsOn_5 : decode cX8_roundsOn 5 = .ok (.goto 15, 3) := by decide +kernel
theorem dX8_roundsOn_8 : decode cX8_roundsOn 8 = .ok (.aload_n 0, 1) := by decide +kernel
theorem dX8_roundsOn_9 : decode cX8_roundsOn 9 = .ok (.aload_n 0, 1) := by decide +kernel
theorem dX8_roundsOn_10 : decode cX8_roundsOn 10 = .ok (.getfield 9, 3) := by decide +kernel
theorem dX8_roundsOn_13 : decode cX8_roundsOn 13 = .ok (.bipush 49, 2) := by decide +kernel
theorem dX8_roundsOn_15 : decode cX8_roundsOn 15 = .ok (.iaload, 1) := by decide +kernel
theorem dX8_roundsOn_16 : decode cX8_roundsOn 16 = .ok (.iload_n 1, 1) := by decide +kernel
theorem dX8_roundsOn_17 : decode cX8_roundsOn 17 = .ok (.invokevirtual 138, 3) := by decide +kernel
theorem dX8_roundsOn_20 : decode cX8_roundsOn 20 = .ok (.istore 5, 2) := by decide +kernel
theorem dX8_roundsOn_22 : decode cX8_roundsOn 22 = .ok (.iload 5, 2) := by decide +kernel
theorem dX8_roundsOn_24 : decode cX8_roundsOn 24 = .ok (.ifCond .lt 41, 3) := by decide +kernel
theorem dX8_roundsOn_27 : decode cX8_roundsOn 27 = .ok (.aload_n 0, 1) := by decide +kernel
theorem dX8_roundsOn_28 : decode cX8_roundsOn 28 = .ok (.iload_n 3, 1) := by decide +kernel
theorem dX8_roundsOn_29 : decode cX8_roundsOn 29 = .ok (.invokevirtual 188, 3) := by decide +kernel
theorem dX8_roundsOn_32 : decode cX8_roundsOn 32 = .ok (.aload_n 0, 1) := by decide +kernel
theorem dX8_roundsOn_33 : decode cX8_roundsOn 33 = .ok (.iload 5, 2) := by decide +kernel
theorem dX8_roundsOn_35 : decode cX8_roundsOn 35 = .ok (.iload_n 1, 1) := by decide +kernel
theorem dX8_roundsOn_36 : decode cX8_roundsOn 36 = .ok (.invokevirtual 160, 3) := by decide +kernel
theorem dX8_roundsOn_39 : decode cX8_roundsOn 39 = .ok (.iload 4, 2) := by decide +kernel
theorem dX8_roundsOn_41 : decode cX8_roundsOn 41 = .ok (.aload_n 0, 1) := by decide +kernel
theorem dX8_roundsOn_42 : decode cX8_roundsOn 42 = .ok (.getfield 9, 3) := by decide +kernel
theorem dX8_roundsOn_45 : decode cX8_roundsOn 45 = .ok (.bipush 51, 2) := by decide +kernel
theorem dX8_roundsOn_47 : decode cX8_roundsOn 47 = .ok (.iaload, 1) := by decide +kernel
theorem dX8_roundsOn_48 : decode cX8_roundsOn 48 = .ok (.iconst (-1), 1) := by decide +kernel
theorem dX8_roundsOn_49 : decode cX8_roundsOn 49 = .ok (.ixor, 1) := by decide +kernel
theorem dX8_roundsOn_50 : decode cX8_roundsOn 50 = .ok (.iand, 1) := by decide +kernel
theorem dX8_roundsOn_51 : decode cX8_roundsOn 51 = .ok (.ifCond .ne 9, 3) := by decide +kernel
theorem dX8_roundsOn_54 : decode cX8_roundsOn 54 = .ok (.aload_n 0, 1) := by decide +kernel
theorem dX8_roundsOn_55 : decode cX8_roundsOn 55 = .ok (.iload_n 3, 1) := by decide +kernel
theorem dX8_roundsOn_56 : decode cX8_roundsOn 56 = .ok (.iconst 0, 1) := by decide +kernel
theorem dX8_roundsOn_57 : decode cX8_roundsOn 57 = .ok (.invokevirtual 182, 3) := by decide +kernel
theorem dX8_roundsOn_60 : decode cX8_roundsOn 60 = .ok (.aload_n 0, 1) := by decide +kernel
theorem dX8_roundsOn_61 : decode cX8_roundsOn 61 = .ok (.iload_n 3, 1) := by decide +kernel
theorem dX8_roundsOn_62 : decode cX8_roundsOn 62 = .ok (.invokevirtual 195, 3) := by decide +kernel
theorem dX8_roundsOn_65 : decode cX8_roundsOn 65 = .ok (.iconst 0, 1) := by decide +kernel
theorem dX8_roundsOn_66 : decode cX8_roundsOn 66 = .ok (.istore 6, 2) := by decide +kernel
theorem dX8_roundsOn_68 : decode cX8_roundsOn 68 = .ok (.iload 6, 2) := by decide +kernel
theorem dX8_roundsOn_70 : decode cX8_roundsOn 70 = .ok (.bipush 8, 2) := by decide +kernel
theorem dX8_roundsOn_72 : decode cX8_roundsOn 72 = .ok (.if_icmp .ge 84, 3) := by decide +kernel
theorem dX8_roundsOn_75 : decode cX8_roundsOn 75 = .ok (.iload_n 2, 1) := by decide +kernel
theorem dX8_roundsOn_76 : decode cX8_roundsOn 76 = .ok (.iload 6, 2) := by decide +kernel
theorem dX8_roundsOn_78 : decode cX8_roundsOn 78 = .ok (.invokestatic 185, 3) := by decide +kernel
theorem dX8_roundsOn_81 : decode cX8_roundsOn 81 = .ok (.ifCond .eq 7, 3) := by decide +kernel
theorem dX8_roundsOn_84 : decode cX8_roundsOn 84 = .ok (.iconst (-1), 1) := by decide +kernel
theorem dX8_roundsOn_85 : decode cX8_roundsOn 85 = .ok (.goto 16, 3) := by decide +kernel
theorem dX8_roundsOn_88 : decode cX8_roundsOn 88 = .ok (.aload_n 0, 1) := by decide +kernel
theorem dX8_roundsOn_89 : decode cX8_roundsOn 89 = .ok (.aload_n 0, 1) := by decide +kernel
theorem dX8_roundsOn_90 : decode cX8_roundsOn 90 = .ok (.getfield 9, 3) := by decide +kernel
theorem dX8_roundsOn_93 : decode cX8_roundsOn 93 = .ok (.bipush 49, 2) := by decide +kernel
theorem dX8_roundsOn_95 : decode cX8_roundsOn 95 = .ok (.iaload, 1) := by decide +kernel
theorem dX8_roundsOn_96 : decode cX8_roundsOn 96 = .ok (.iload 6, 2) := by decide +kernel
theorem dX8_roundsOn_98 : decode cX8_roundsOn 98 = .ok (.invokevirtual 138, 3) := by decide +kernel
theorem dX8_roundsOn_101 : decode cX8_roundsOn 101 = .ok (.istore 7, 2) := by decide +kernel
theorem dX8_roundsOn_103 : decode cX8_roundsOn 103 = .ok (.iload 7, 2) := by decide +kernel
theorem dX8_roundsOn_105 : decode cX8_roundsOn 105 = .ok (.ifCond .lt 45, 3) := by decide +kernel
theorem dX8_roundsOn_108 : decode cX8_roundsOn 108 = .ok (.aload_n 0, 1) := by decide +kernel
theorem dX8_roundsOn_109 : decode cX8_roundsOn 109 = .ok (.iload_n 3, 1) := by decide +kernel
theorem dX8_roundsOn_110 : decode cX8_roundsOn 110 = .ok (.invokevirtual 188, 3) := by decide +kernel
theorem dX8_roundsOn_113 : decode cX8_roundsOn 113 = .ok (.aload_n 0, 1) := by decide +kernel
theorem dX8_roundsOn_114 : decode cX8_roundsOn 114 = .ok (.iload 7, 2) := by decide +kernel
theorem dX8_roundsOn_116 : decode cX8_roundsOn 116 = .ok (.iload 6, 2) := by decide +kernel
theorem dX8_roundsOn_118 : decode cX8_roundsOn 118 = .ok (.invokevirtual 160, 3) := by decide +kernel
theorem dX8_roundsOn_121 : decode cX8_roundsOn 121 = .ok (.aload_n 0, 1) := by decide +kernel
theorem dX8_roundsOn_122 : decode cX8_roundsOn 122 = .ok (.getfield 29, 3) := by decide +kernel
theorem dX8_roundsOn_125 : decode cX8_roundsOn 125 = .ok (.iload_n 3, 1) := by decide +kernel
theorem dX8_roundsOn_126 : decode cX8_roundsOn 126 = .ok (.iload 6, 2) := by decide +kernel
theorem dX8_roundsOn_128 : decode cX8_roundsOn 128 = .ok (.iastore, 1) := by decide +kernel
theorem dX8_roundsOn_129 : decode cX8_roundsOn 129 = .ok (.aload_n 0, 1) := by decide +kernel
theorem dX8_roundsOn_130 : decode cX8_roundsOn 130 = .ok (.iload_n 1, 1) := by decide +kernel
theorem dX8_roundsOn_131 : decode cX8_roundsOn 131 = .ok (.iload_n 2, 1) := by decide +kernel
theorem dX8_roundsOn_132 : decode cX8_roundsOn 132 = .ok (.iconst 1, 1) := by decide +kernel
theorem dX8_roundsOn_133 : decode cX8_roundsOn 133 = .ok (.iload 6, 2) := by decide +kernel
theorem dX8_roundsOn_135 : decode cX8_roundsOn 135 = .ok (.ishl, 1) := by decide +kernel
theorem dX8_roundsOn_136 : decode cX8_roundsOn 136 = .ok (.ior, 1) := by decide +kernel
theorem dX8_roundsOn_137 : decode cX8_roundsOn 137 = .ok (.iload_n 3, 1) := by decide +kernel
theorem dX8_roundsOn_138 : decode cX8_roundsOn 138 = .ok (.iconst 1, 1) := by decide +kernel
theorem dX8_roundsOn_139 : decode cX8_roundsOn 139 = .ok (.iadd, 1) := by decide +kernel
theorem dX8_roundsOn_140 : decode cX8_roundsOn 140 = .ok (.iload 4, 2) := by decide +kernel
theorem dX8_roundsOn_142 : decode cX8_roundsOn 142 = .ok (.invokevirtual 214, 3) := by decide +kernel
theorem dX8_roundsOn_145 : decode cX8_roundsOn 145 = .ok (.aload_n 0, 1) := by decide +kernel
theorem dX8_roundsOn_146 : decode cX8_roundsOn 146 = .ok (.iload_n 3, 1) := by decide +kernel
theorem dX8_roundsOn_147 : decode cX8_roundsOn 147 = .ok (.invokevirtual 195, 3) := by decide +kernel
theorem dX8_roundsOn_150 : decode cX8_roundsOn 150 = .ok (.iinc 6 1, 3) := by decide +kernel
theorem dX8_roundsOn_153 : decode cX8_roundsOn 153 = .ok (.goto (-85), 3) := by decide +kernel
theorem dX8_roundsOn_156 : decode cX8_roundsOn 156 = .ok (.return_, 1) := by decide +kernel
theorem dX8_bestRound_0 : decode cX8_bestRound 0 = .ok (.aload_n 0, 1) := by decide +kernel
theorem dX8_bestRound_1 : decode cX8_bestRound 1 = .ok (.invokevirtual 198, 3) := by decide +kernel
theorem dX8_bestRound_4 : decode cX8_bestRound 4 = .ok (.aload_n 0, 1) := by decide +kernel
theorem dX8_bestRound_5 : decode cX8_bestRound 5 = .ok (.aload_n 0, 1) := by decide +kernel
theorem dX8_bestRound_6 : decode cX8_bestRound 6 = .ok (.getfield 9, 3) := by decide +kernel
theorem dX8_bestRound_9 : decode cX8_bestRound 9 = .ok (.bipush 49, 2) := by decide +kernel
theorem dX8_bestRound_11 : decode cX8_bestRound 11 = .ok (.iaload, 1) := by decide +kernel
theorem dX8_bestRound_12 : decode cX8_bestRound 12 = .ok (.iconst 1, 1) := by decide +kernel
theorem dX8_bestRound_13 : decode cX8_bestRound 13 = .ok (.aload_n 0, 1) := by decide +kernel
theorem dX8_bestRound_14 : decode cX8_bestRound 14 = .ok (.getfield 9, 3) := by decide +kernel
theorem dX8_bestRound_17 : decode cX8_bestRound 17 = .ok (.bipush 49, 2) := by decide +kernel
theorem dX8_bestRound_19 : decode cX8_bestRound 19 = .ok (.iaload, 1) := by decide +kernel
theorem dX8_bestRound_20 : decode cX8_bestRound 20 = .ok (.ishl, 1) := by decide +kernel
theorem dX8_bestRound_21 : decode cX8_bestRound 21 = .ok (.iconst 0, 1) := by decide +kernel
theorem dX8_bestRound_22 : decode cX8_bestRound 22 = .ok (.aload_n 0, 1) := by decide +kernel
theorem dX8_bestRound_23 : decode cX8_bestRound 23 = .ok (.invokevirtual 217, 3) := by decide +kernel
theorem dX8_bestRound_26 : decode cX8_bestRound 26 = .ok (.invokevirtual 214, 3) := by decide +kernel
theorem dX8_bestRound_29 : decode cX8_bestRound 29 = .ok (.aload_n 0, 1) := by decide +kernel
theorem dX8_bestRound_30 : decode cX8_bestRound 30 = .ok (.getfield 176, 3) := by decide +kernel
theorem dX8_bestRound_33 : decode cX8_bestRound 33 = .ok (.ireturn, 1) := by decide +kernel
theorem dX8_round_0 : decode cX8_round 0 = .ok (.aload_n 0, 1) := by decide +kernel
theorem dX8_round_1 : decode cX8_round 1 = .ok (.invokevirtual 201, 3) := by decide +kernel
theorem dX8_round_4 : decode cX8_round 4 = .ok (.ifCond .eq 10, 3) := by decide +kernel
theorem dX8_round_7 : decode cX8_round 7 = .ok (.aload_n 0, 1) := by decide +kernel
theorem dX8_round_8 : decode cX8_round 8 = .ok (.ldc 159, 2) := by decide +kernel
theorem dX8_round_10 : decode cX8_round 10 = .ok (.invokevirtual 101, 3) := by decide +kernel
theorem dX8_round_13 : decode cX8_round 13 = .ok (.ireturn, 1) := by decide +kernel
theorem dX8_round_14 : decode cX8_round 14 = .ok (.aload_n 0, 1) := by decide +kernel
theorem dX8_round_15 : decode cX8_round 15 = .ok (.invokevirtual 220, 3) := by decide +kernel
theorem dX8_round_18 : decode cX8_round 18 = .ok (.istore_n 1, 1) := by decide +kernel
theorem dX8_round_19 : decode cX8_round 19 = .ok (.iload_n 1, 1) := by decide +kernel
theorem dX8_round_20 : decode cX8_round 20 = .ok (.ifCond .ge 12, 3) := by decide +kernel
theorem dX8_round_23 : decode cX8_round 23 = .ok (.aload_n 0, 1) := by decide +kernel
theorem dX8_round_24 : decode cX8_round 24 = .ok (.ldc 144, 2) := by decide +kernel
theorem dX8_round_26 : decode cX8_round 26 = .ok (.invokevirtual 101, 3) := by decide +kernel
theorem dX8_round_29 : decode cX8_round 29 = .ok (.goto 4, 3) := by decide +kernel
theorem dX8_round_32 : decode cX8_round 32 = .ok (.iload_n 1, 1) := by decide +kernel
theorem dX8_round_33 : decode cX8_round 33 = .ok (.ireturn, 1) := by decide +kernel
theorem dX8_ith_0 : decode cX8_ith 0 = .ok (.iload_n 1, 1) := by decide +kernel
theorem dX8_ith_1 : decode cX8_ith 1 = .ok (.invokestatic 211, 3) := by decide +kernel
theorem dX8_ith_4 : decode cX8_ith 4 = .ok (.ifCond .ne 10, 3) := by decide +kernel
theorem dX8_ith_7 : decode cX8_ith 7 = .ok (.aload_n 0, 1) := by decide +kernel
theorem dX8_ith_8 : decode cX8_ith 8 = .ok (.ldc 73, 2) := by decide +kernel
theorem dX8_ith_10 : decode cX8_ith 10 = .ok (.invokevirtual 101, 3) := by decide +kernel
theorem dX8_ith_13 : decode cX8_ith 13 = .ok (.ireturn, 1) := by decide +kernel
theorem dX8_ith_14 : decode cX8_ith 14 = .ok (.aload_n 0, 1) := by decide +kernel
theorem dX8_ith_15 : decode cX8_ith 15 = .ok (.invokevirtual 201, 3) := by decide +kernel
theorem dX8_ith_18 : decode cX8_ith 18 = .ok (.ifCond .eq 10, 3) := by decide +kernel
theorem dX8_ith_21 : decode cX8_ith 21 = .ok (.aload_n 0, 1) := by decide +kernel
theorem dX8_ith_22 : decode cX8_ith 22 = .ok (.ldc 159, 2) := by decide +kernel
theorem dX8_ith_24 : decode cX8_ith 24 = .ok (.invokevirtual 101, 3) := by decide +kernel
theorem dX8_ith_27 : decode cX8_ith 27 = .ok (.ireturn, 1) := by decide +kernel
theorem dX8_ith_28 : decode cX8_ith 28 = .ok (.aload_n 0, 1) := by decide +kernel
theorem dX8_ith_29 : decode cX8_ith 29 = .ok (.invokevirtual 220, 3) := by decide +kernel
theorem dX8_ith_32 : decode cX8_ith 32 = .ok (.ifCond .lt 11, 3) := by decide +kernel
theorem dX8_ith_35 : decode cX8_ith 35 = .ok (.iload_n 1, 1) := by decide +kernel
theorem dX8_ith_36 : decode cX8_ith 36 = .ok (.aload_n 0, 1) := by decide +kernel
theorem dX8_ith_37 : decode cX8_ith 37 = .ok (.getfield 179, 3) := by decide +kernel
theorem dX8_ith_40 : decode cX8_ith 40 = .ok (.if_icmp .lt 12, 3) := by decide +kernel
theorem dX8_ith_43 : decode cX8_ith 43 = .ok (.aload_n 0, 1) := by decide +kernel
theorem dX8_ith_44 : decode cX8_ith 44 = .ok (.ldc 144, 2) := by decide +kernel
theorem dX8_ith_46 : decode cX8_ith 46 = .ok (.invokevirtual 101, 3) := by decide +kernel
theorem dX8_ith_49 : decode cX8_ith 49 = .ok (.goto 9, 3) := by decide +kernel
theorem dX8_ith_52 : decode cX8_ith 52 = .ok (.aload_n 0, 1) := by decide +kernel
theorem dX8_ith_53 : decode cX8_ith 53 = .ok (.getfield 32, 3) := by decide +kernel
theorem dX8_ith_56 : decode cX8_ith 56 = .ok (.iload_n 1, 1) := by decide +kernel
theorem dX8_ith_57 : decode cX8_ith 57 = .ok (.iaload, 1) := by decide +kernel
theorem dX8_ith_58 : decode cX8_ith 58 = .ok (.ireturn, 1) := by decide +kernel
theorem dX8_rounds_0 : decode cX8_rounds 0 = .ok (.aload_n 0, 1) := by decide +kernel
theorem dX8_rounds_1 : decode cX8_rounds 1 = .ok (.invokevirtual 201, 3) := by decide +kernel
theorem dX8_rounds_4 : decode cX8_rounds 4 = .ok (.ifCond .eq 10, 3) := by decide +kernel
theorem dX8_rounds_7 : decode cX8_rounds 7 = .ok (.aload_n 0, 1) := by decide +kernel
theorem dX8_rounds_8 : decode cX8_rounds 8 = .ok (.ldc 159, 2) := by decide +kernel
theorem dX8_rounds_10 : decode cX8_rounds 10 = .ok (.invokevirtual 101, 3) := by decide +kernel
theorem dX8_rounds_13 : decode cX8_rounds 13 = .ok (.ireturn, 1) := by decide +kernel
theorem dX8_rounds_14 : decode cX8_rounds 14 = .ok (.aload_n 0, 1) := by decide +kernel
theorem dX8_rounds_15 : decode cX8_rounds 15 = .ok (.invokevirtual 220, 3) := by decide +kernel
theorem dX8_rounds_18 : decode cX8_rounds 18 = .ok (.ifCond .ge 7, 3) := by decide +kernel
theorem dX8_rounds_21 : decode cX8_rounds 21 = .ok (.iconst 0, 1) := by decide +kernel
theorem dX8_rounds_22 : decode cX8_rounds 22 = .ok (.goto 7, 3) := by decide +kernel
theorem dX8_rounds_25 : decode cX8_rounds 25 = .ok (.aload_n 0, 1) := by decide +kernel
theorem dX8_rounds_26 : decode cX8_rounds 26 = .ok (.getfield 170, 3) := by decide +kernel
theorem dX8_rounds_29 : decode cX8_rounds 29 = .ok (.ireturn, 1) := by decide +kernel
theorem dX8_tried_0 : decode cX8_tried 0 = .ok (.iload_n 2, 1) := by decide +kernel
theorem dX8_tried_1 : decode cX8_tried 1 = .ok (.aload_n 0, 1) := by decide +kernel
theorem dX8_tried_2 : decode cX8_tried 2 = .ok (.getfield 223, 3) := by decide +kernel
theorem dX8_tried_5 : decode cX8_tried 5 = .ok (.if_icmp .le 13, 3) := by decide +kernel
theorem dX8_tried_8 : decode cX8_tried 8 = .ok (.aload_n 0, 1) := by decide +kernel
theorem dX8_tried_9 : decode cX8_tried 9 = .ok (.iload_n 1, 1) := by decide +kernel
theorem dX8_tried_10 : decode cX8_tried 10 = .ok (.putfield 226, 3) := by decide +kernel
theorem dX8_tried_13 : decode cX8_tried 13 = .ok (.aload_n 0, 1) := by decide +kernel
theorem dX8_tried_14 : decode cX8_tried 14 = .ok (.iload_n 2, 1) := by decide +kernel
theorem dX8_tried_15 : decode cX8_tried 15 = .ok (.putfield 223, 3) := by decide +kernel
theorem dX8_tried_18 : decode cX8_tried 18 = .ok (.return_, 1) := by decide +kernel
theorem dX8_nothingTried_0 : decode cX8_nothingTried 0 = .ok (.aload_n 0, 1) := by decide +kernel
theorem dX8_nothingTried_1 : decode cX8_nothingTried 1 = .ok (.iconst (-1), 1) := by decide +kernel
theorem dX8_nothingTried_2 : decode cX8_nothingTried 2 = .ok (.putfield 226, 3) := by decide +kernel
theorem dX8_nothingTried_5 : decode cX8_nothingTried 5 = .ok (.aload_n 0, 1) := by decide +kernel
theorem dX8_nothingTried_6 : decode cX8_nothingTried 6 = .ok (.iconst (-1), 1) := by decide +kernel
theorem dX8_nothingTried_7 : decode cX8_nothingTried 7 = .ok (.putfield 223, 3) := by decide +kernel
theorem dX8_nothingTried_10 : decode cX8_nothingTried 10 = .ok (.return_, 1) := by decide +kernel
theorem dX8_bestTried_0 : decode cX8_bestTried 0 = .ok (.aload_n 0, 1) := by decide +kernel
theorem dX8_bestTried_1 : decode cX8_bestTried 1 = .ok (.getfield 226, 3) := by decide +kernel
theorem dX8_bestTried_4 : decode cX8_bestTried 4 = .ok (.ifCond .ge 12, 3) := by decide +kernel
theorem dX8_bestTried_7 : decode cX8_bestTried 7 = .ok (.aload_n 0, 1) := by decide +kernel
theorem dX8_bestTried_8 : decode cX8_bestTried 8 = .ok (.ldc 144, 2) := by decide +kernel
theorem dX8_bestTried_10 : decode cX8_bestTried 10 = .ok (.invokevirtual 101, 3) := by decide +kernel
theorem dX8_bestTried_13 : decode cX8_bestTried 13 = .ok (.goto 7, 3) := by decide +kernel
theorem dX8_bestTried_16 : decode cX8_bestTried 16 = .ok (.aload_n 0, 1) := by decide +kernel
theorem dX8_bestTried_17 : decode cX8_bestTried 17 = .ok (.getfield 226, 3) := by decide +kernel
theorem dX8_bestTried_20 : decode cX8_bestTried 20 = .ok (.ireturn, 1) := by decide +kernel
theorem dX8_start_0 : decode cX8_start 0 = .ok (.aload_n 0, 1) := by decide +kernel
theorem dX8_start_1 : decode cX8_start 1 = .ok (.invokevirtual 201, 3) := by decide +kernel
theorem dX8_start_4 : decode cX8_start 4 = .ok (.ifCond .eq 10, 3) := by decide +kernel
theorem dX8_start_7 : decode cX8_start 7 = .ok (.aload_n 0, 1) := by decide +kernel
theorem dX8_start_8 : decode cX8_start 8 = .ok (.ldc 159, 2) := by decide +kernel
theorem dX8_start_10 : decode cX8_start 10 = .ok (.invokevirtual 101, 3) := by decide +kernel
theorem dX8_start_13 : decode cX8_start 13 = .ok (.ireturn, 1) := by decide +kernel
theorem dX8_start_14 : decode cX8_start 14 = .ok (.aload_n 0, 1) := by decide +kernel
theorem dX8_start_15 : decode cX8_start 15 = .ok (.invokevirtual 229, 3) := by decide +kernel
theorem dX8_start_18 : decode cX8_start 18 = .ok (.aload_n 0, 1) := by decide +kernel
theorem dX8_start_19 : decode cX8_start 19 = .ok (.getfield 9, 3) := by decide +kernel
theorem dX8_start_22 : decode cX8_start 22 = .ok (.bipush 50, 2) := by decide +kernel
theorem dX8_start_24 : decode cX8_start 24 = .ok (.iaload, 1) := by decide +kernel
theorem dX8_start_25 : decode cX8_start 25 = .ok (.istore_n 1, 1) := by decide +kernel
theorem dX8_start_26 : decode cX8_start 26 = .ok (.iconst 0, 1) := by decide +kernel
theorem dX8_start_27 : decode cX8_start 27 = .ok (.istore_n 2, 1) := by decide +kernel
theorem dX8_start_28 : decode cX8_start 28 = .ok (.iload_n 2, 1) := by decide +kernel
theorem dX8_start_29 : decode cX8_start 29 = .ok (.bipush 60, 2) := by decide +kernel
theorem dX8_start_31 : decode cX8_start 31 = .ok (.if_icmp .gt 28, 3) := by decide +kernel
theorem dX8_start_34 : decode cX8_start 34 = .ok (.aload_n 0, 1) := by decide +kernel
theorem dX8_start_35 : decode cX8_start 35 = .ok (.getfield 9, 3) := by decide +kernel
theorem dX8_start_38 : decode cX8_start 38 = .ok (.bipush 50, 2) := by decide +kernel
theorem dX8_start_40 : decode cX8_start 40 = .ok (.iload_n 1, 1) := by decide +kernel
theorem dX8_start_41 : decode cX8_start 41 = .ok (.iload_n 2, 1) := by decide +kernel
theorem dX8_start_42 : decode cX8_start 42 = .ok (.iadd, 1) := by decide +kernel
theorem dX8_start_43 : decode cX8_start 43 = .ok (.iastore, 1) := by decide +kernel
theorem dX8_start_44 : decode cX8_start 44 = .ok (.aload_n 0, 1) := by decide +kernel
theorem dX8_start_45 : decode cX8_start 45 = .ok (.iload_n 2, 1) := by decide +kernel
theorem dX8_start_46 : decode cX8_start 46 = .ok (.aload_n 0, 1) := by decide +kernel
theorem dX8_start_47 : decode cX8_start 47 = .ok (.invokevirtual 220, 3) := by decide +kernel
theorem dX8_start_50 : decode cX8_start 50 = .ok (.invokevirtual 232, 3) := by decide +kernel
theorem dX8_start_53 : decode cX8_start 53 = .ok (.iinc 2 1, 3) := by decide +kernel
theorem dX8_start_56 : decode cX8_start 56 = .ok (.goto (-28), 3) := by decide +kernel
theorem dX8_start_59 : decode cX8_start 59 = .ok (.aload_n 0, 1) := by decide +kernel
theorem dX8_start_60 : decode cX8_start 60 = .ok (.getfield 9, 3) := by decide +kernel
theorem dX8_start_63 : decode cX8_start 63 = .ok (.bipush 50, 2) := by decide +kernel
theorem dX8_start_65 : decode cX8_start 65 = .ok (.iload_n 1, 1) := by decide +kernel
theorem dX8_start_66 : decode cX8_start 66 = .ok (.iastore, 1) := by decide +kernel
theorem dX8_start_67 : decode cX8_start 67 = .ok (.aload_n 0, 1) := by decide +kernel
theorem dX8_start_68 : decode cX8_start 68 = .ok (.invokevirtual 235, 3) := by decide +kernel
theorem dX8_start_71 : decode cX8_start 71 = .ok (.ireturn, 1) := by decide +kernel
theorem dX8_better_0 : decode cX8_better 0 = .ok (.aload_n 0, 1) := by decide +kernel
theorem dX8_better_1 : decode cX8_better 1 = .ok (.invokevirtual 201, 3) := by decide +kernel
theorem dX8_better_4 : decode cX8_better 4 = .ok (.ifCond .eq 10, 3) := by decide +kernel
theorem dX8_better_7 : decode cX8_better 7 = .ok (.aload_n 0, 1) := by decide +kernel
theorem dX8_better_8 : decode cX8_better 8 = .ok (.ldc 159, 2) := by decide +kernel
theorem dX8_better_10 : decode cX8_better 10 = .ok (.invokevirtual 101, 3) := by decide +kernel
theorem dX8_better_13 : decode cX8_better 13 = .ok (.ireturn, 1) := by decide +kernel
theorem dX8_better_14 : decode cX8_better 14 = .ok (.aload_n 0, 1) := by decide +kernel
theorem dX8_better_15 : decode cX8_better 15 = .ok (.invokevirtual 229, 3) := by decide +kernel
theorem dX8_better_18 : decode cX8_better 18 = .ok (.aload_n 0, 1) := by decide +kernel
theorem dX8_better_19 : decode cX8_better 19 = .ok (.getfield 9, 3) := by decide +kernel
theorem dX8_better_22 : decode cX8_better 22 = .ok (.bipush 44, 2) := by decide +kernel
theorem dX8_better_24 : decode cX8_better 24 = .ok (.iaload, 1) := by decide +kernel
theorem dX8_better_25 : decode cX8_better 25 = .ok (.istore_n 1, 1) := by decide +kernel
theorem dX8_better_26 : decode cX8_better 26 = .ok (.iconst 0, 1) := by decide +kernel
theorem dX8_better_27 : decode cX8_better 27 = .ok (.istore_n 2, 1) := by decide +kernel
theorem dX8_better_28 : decode cX8_better 28 = .ok (.iload_n 2, 1) := by decide +kernel
theorem dX8_better_29 : decode cX8_better 29 = .ok (.iconst 1, 1) := by decide +kernel
theorem dX8_better_30 : decode cX8_better 30 = .ok (.if_icmp .gt 26, 3) := by decide +kernel
theorem dX8_better_33 : decode cX8_better 33 = .ok (.aload_n 0, 1) := by decide +kernel
theorem dX8_better_34 : decode cX8_better 34 = .ok (.getfield 9, 3) := by decide +kernel
theorem dX8_better_37 : decode cX8_better 37 = .ok (.bipush 44, 2) := by decide +kernel
theorem dX8_better_39 : decode cX8_better 39 = .ok (.iload_n 2, 1) := by decide +kernel
theorem dX8_better_40 : decode cX8_better 40 = .ok (.iastore, 1) := by decide +kernel
theorem dX8_better_41 : decode cX8_better 41 = .ok (.aload_n 0, 1) := by decide +kernel
theorem dX8_better_42 : decode cX8_better 42 = .ok (.iload_n 2, 1) := by decide +kernel
theorem dX8_better_43 : decode cX8_better 43 = .ok (.aload_n 0, 1) := by decide +kernel
theorem dX8_better_44 : decode cX8_better 44 = .ok (.invokevirtual 220, 3) := by decide +kernel
theorem dX8_better_47 : decode cX8_better 47 = .ok (.invokevirtual 232, 3) := by decide +kernel
theorem dX8_better_50 : decode cX8_better 50 = .ok (.iinc 2 1, 3) := by decide +kernel
theorem dX8_better_53 : decode cX8_better 53 = .ok (.goto (-25), 3) := by decide +kernel
theorem dX8_better_56 : decode cX8_better 56 = .ok (.aload_n 0, 1) := by decide +kernel
theorem dX8_better_57 : decode cX8_better 57 = .ok (.getfield 9, 3) := by decide +kernel
theorem dX8_better_60 : decode cX8_better 60 = .ok (.bipush 44, 2) := by decide +kernel
theorem dX8_better_62 : decode cX8_better 62 = .ok (.iload_n 1, 1) := by decide +kernel
theorem dX8_better_63 : decode cX8_better 63 = .ok (.iastore, 1) := by decide +kernel
theorem dX8_better_64 : decode cX8_better 64 = .ok (.aload_n 0, 1) := by decide +kernel
theorem dX8_better_65 : decode cX8_better 65 = .ok (.invokevirtual 235, 3) := by decide +kernel
theorem dX8_better_68 : decode cX8_better 68 = .ok (.ireturn, 1) := by decide +kernel
theorem dX8_bestWith_0 : decode cX8_bestWith 0 = .ok (.aload_n 0, 1) := by decide +kernel
theorem dX8_bestWith_1 : decode cX8_bestWith 1 = .ok (.invokevirtual 201, 3) := by decide +kernel
theorem dX8_bestWith_4 : decode cX8_bestWith 4 = .ok (.ifCond .eq 10, 3) := by decide +kernel
theorem dX8_bestWith_7 : decode cX8_bestWith 7 = .ok (.aload_n 0, 1) := by decide +kernel
theorem dX8_bestWith_8 : decode cX8_bestWith 8 = .ok (.ldc 159, 2) := by decide +kernel
theorem dX8_bestWith_10 : decode cX8_bestWith 10 = .ok (.invokevirtual 101, 3) := by decide +kernel
theorem dX8_bestWith_13 : decode cX8_bestWith 13 = .ok (.ireturn, 1) := by decide +kernel
theorem dX8_bestWith_14 : decode cX8_bestWith 14 = .ok (.aload_n 0, 1) := by decide +kernel
theorem dX8_bestWith_15 : decode cX8_bestWith 15 = .ok (.invokevirtual 229, 3) := by decide +kernel
theorem dX8_bestWith_18 : decode cX8_bestWith 18 = .ok (.iconst 0, 1) := by decide +kernel
theorem dX8_bestWith_19 : decode cX8_bestWith 19 = .ok (.istore 4, 2) := by decide +kernel
theorem dX8_bestWith_21 : decode cX8_bestWith 21 = .ok (.iload 4, 2) := by decide +kernel
theorem dX8_bestWith_23 : decode cX8_bestWith 23 = .ok (.aload_n 0, 1) := by decide +kernel
theorem dX8_bestWith_24 : decode cX8_bestWith 24 = .ok (.getfield 9, 3) := by decide +kernel
theorem dX8_bestWith_27 : decode cX8_bestWith 27 = .ok (.bipush 8, 2) := by decide +kernel
theorem dX8_bestWith_29 : decode cX8_bestWith 29 = .ok (.iaload, 1) := by decide +kernel
theorem dX8_bestWith_30 : decode cX8_bestWith 30 = .ok (.if_icmp .ge 60, 3) := by decide +kernel
theorem dX8_bestWith_33 : decode cX8_bestWith 33 = .ok (.iload_n 3, 1) := by decide +kernel
theorem dX8_bestWith_34 : decode cX8_bestWith 34 = .ok (.ifCond .ne 14, 3) := by decide +kernel
theorem dX8_bestWith_37 : decode cX8_bestWith 37 = .ok (.aload_n 0, 1) := by decide +kernel
theorem dX8_bestWith_38 : decode cX8_bestWith 38 = .ok (.iload 4, 2) := by decide +kernel
theorem dX8_bestWith_40 : decode cX8_bestWith 40 = .ok (.iload_n 1, 1) := by decide +kernel
theorem dX8_bestWith_41 : decode cX8_bestWith 41 = .ok (.invokevirtual 113, 3) := by decide +kernel
theorem dX8_bestWith_44 : decode cX8_bestWith 44 = .ok (.iload_n 2, 1) := by decide +kernel
theorem dX8_bestWith_45 : decode cX8_bestWith 45 = .ok (.if_icmp .eq 39, 3) := by decide +kernel
theorem dX8_bestWith_48 : decode cX8_bestWith 48 = .ok (.aload_n 0, 1) := by decide +kernel
theorem dX8_bestWith_49 : decode cX8_bestWith 49 = .ok (.iload 4, 2) := by decide +kernel
theorem dX8_bestWith_51 : decode cX8_bestWith 51 = .ok (.iload_n 1, 1) := by decide +kernel
theorem dX8_bestWith_52 : decode cX8_bestWith 52 = .ok (.invokestatic 82, 3) := by decide +kernel
theorem dX8_bestWith_55 : decode cX8_bestWith 55 = .ok (.iload_n 2, 1) := by decide +kernel
theorem dX8_bestWith_56 : decode cX8_bestWith 56 = .ok (.invokevirtual 129, 3) := by decide +kernel
theorem dX8_bestWith_59 : decode cX8_bestWith 59 = .ok (.istore 5, 2) := by decide +kernel
theorem dX8_bestWith_61 : decode cX8_bestWith 61 = .ok (.aload_n 0, 1) := by decide +kernel
theorem dX8_bestWith_62 : decode cX8_bestWith 62 = .ok (.iload 4, 2) := by decide +kernel
theorem dX8_bestWith_64 : decode cX8_bestWith 64 = .ok (.aload_n 0, 1) := by decide +kernel
theorem dX8_bestWith_65 : decode cX8_bestWith 65 = .ok (.invokevirtual 220, 3) := by decide +kernel
theorem dX8_bestWith_68 : decode cX8_bestWith 68 = .ok (.invokevirtual 232, 3) := by decide +kernel
theorem dX8_bestWith_71 : decode cX8_bestWith 71 = .ok (.aload_n 0, 1) := by decide +kernel
theorem dX8_bestWith_72 : decode cX8_bestWith 72 = .ok (.getfield 9, 3) := by decide +kernel
theorem dX8_bestWith_75 : decode cX8_bestWith 75 = .ok (.iload 4, 2) := by decide +kernel
theorem dX8_bestWith_77 : decode cX8_bestWith 77 = .ok (.iload_n 1, 1) := by decide +kernel
theorem dX8_bestWith_78 : decode cX8_bestWith 78 = .ok (.invokestatic 82, 3) := by decide +kernel
theorem dX8_bestWith_81 : decode cX8_bestWith 81 = .ok (.iload 5, 2) := by decide +kernel
theorem dX8_bestWith_83 : decode cX8_bestWith 83 = .ok (.iastore, 1) := by decide +kernel
theorem dX8_bestWith_84 : decode cX8_bestWith 84 = .ok (.iinc 4 1, 3) := by decide +kernel
theorem dX8_bestWith_87 : decode cX8_bestWith 87 = .ok (.goto (-66), 3) := by decide +kernel
theorem dX8_bestWith_90 : decode cX8_bestWith 90 = .ok (.aload_n 0, 1) := by decide +kernel
theorem dX8_bestWith_91 : decode cX8_bestWith 91 = .ok (.invokevirtual 235, 3) := by decide +kernel
theorem dX8_bestWith_94 : decode cX8_bestWith 94 = .ok (.ireturn, 1) := by decide +kernel
theorem dX8_umbrella_0 : decode cX8_umbrella 0 = .ok (.aload_n 0, 1) := by decide +kernel
theorem dX8_umbrella_1 : decode cX8_umbrella 1 = .ok (.iconst 4, 1) := by decide +kernel
theorem dX8_umbrella_2 : decode cX8_umbrella 2 = .ok (.iconst 1, 1) := by decide +kernel
theorem dX8_umbrella_3 : decode cX8_umbrella 3 = .ok (.iconst 0, 1) := by decide +kernel
theorem dX8_umbrella_4 : decode cX8_umbrella 4 = .ok (.invokevirtual 238, 3) := by decide +kernel
theorem dX8_umbrella_7 : decode cX8_umbrella 7 = .ok (.ireturn, 1) := by decide +kernel
theorem dX8_shade_0 : decode cX8_shade 0 = .ok (.aload_n 0, 1) := by decide +kernel
theorem dX8_shade_1 : decode cX8_shade 1 = .ok (.iconst 0, 1) := by decide +kernel
theorem dX8_shade_2 : decode cX8_shade 2 = .ok (.iconst 1, 1) := by decide +kernel
theorem dX8_shade_3 : decode cX8_shade 3 = .ok (.iconst 1, 1) := by decide +kernel
theorem dX8_shade_4 : decode cX8_shade 4 = .ok (.invokevirtual 238, 3) := by decide +kernel
theorem dX8_shade_7 : decode cX8_shade 7 = .ok (.ireturn, 1) := by decide +kernel
theorem dX8_needed_0 : decode cX8_needed 0 = .ok (.aload_n 0, 1) := by decide +kernel
theorem dX8_needed_1 : decode cX8_needed 1 = .ok (.invokevirtual 201, 3) := by decide +kernel
theorem dX8_needed_4 : decode cX8_needed 4 = .ok (.ifCond .eq 10, 3) := by decide +kernel
theorem dX8_needed_7 : decode cX8_needed 7 = .ok (.aload_n 0, 1) := by decide +kernel
theorem dX8_needed_8 : decode cX8_needed 8 = .ok (.ldc 159, 2) := by decide +kernel
theorem dX8_needed_10 : decode cX8_needed 10 = .ok (.invokevirtual 101, 3) := by decide +kernel
theorem dX8_needed_13 : decode cX8_needed 13 = .ok (.ireturn, 1) := by decide +kernel
theorem dX8_needed_14 : decode cX8_needed 14 = .ok (.aload_n 0, 1) := by decide +kernel
theorem dX8_needed_15 : decode cX8_needed 15 = .ok (.invokevirtual 220, 3) := by decide +kernel
theorem dX8_needed_18 : decode cX8_needed 18 = .ok (.ifCond .ge 10, 3) := by decide +kernel
theorem dX8_needed_21 : decode cX8_needed 21 = .ok (.aload_n 0, 1) := by decide +kernel
theorem dX8_needed_22 : decode cX8_needed 22 = .ok (.ldc 144, 2) := by decide +kernel
theorem dX8_needed_24 : decode cX8_needed 24 = .ok (.invokevirtual 101, 3) := by decide +kernel
theorem dX8_needed_27 : decode cX8_needed 27 = .ok (.ireturn, 1) := by decide +kernel
theorem dX8_needed_28 : decode cX8_needed 28 = .ok (.iconst 0, 1) := by decide +kernel
theorem dX8_needed_29 : decode cX8_needed 29 = .ok (.istore_n 1, 1) := by decide +kernel
theorem dX8_needed_30 : decode cX8_needed 30 = .ok (.iconst 0, 1) := by decide +kernel
theorem dX8_needed_31 : decode cX8_needed 31 = .ok (.istore_n 2, 1) := by decide +kernel
theorem dX8_needed_32 : decode cX8_needed 32 = .ok (.iload_n 2, 1) := by decide +kernel
theorem dX8_needed_33 : decode cX8_needed 33 = .ok (.aload_n 0, 1) := by decide +kernel
theorem dX8_needed_34 : decode cX8_needed 34 = .ok (.getfield 9, 3) := by decide +kernel
theorem dX8_needed_37 : decode cX8_needed 37 = .ok (.bipush 8, 2) := by decide +kernel
theorem dX8_needed_39 : decode cX8_needed 39 = .ok (.iaload, 1) := by decide +kernel
theorem dX8_needed_40 : decode cX8_needed 40 = .ok (.if_icmp .ge 31, 3) := by decide +kernel
theorem dX8_needed_43 : decode cX8_needed 43 = .ok (.aload_n 0, 1) := by decide +kernel
theorem dX8_needed_44 : decode cX8_needed 44 = .ok (.iload_n 2, 1) := by decide +kernel
theorem dX8_needed_45 : decode cX8_needed 45 = .ok (.putfield 22, 3) := by decide +kernel
theorem dX8_needed_48 : decode cX8_needed 48 = .ok (.iload_n 1, 1) := by decide +kernel
theorem dX8_needed_49 : decode cX8_needed 49 = .ok (.aload_n 0, 1) := by decide +kernel
theorem dX8_needed_50 : decode cX8_needed 50 = .ok (.invokevirtual 220, 3) := by decide +kernel
theorem dX8_needed_53 : decode cX8_needed 53 = .ok (.ifCond .ge 9, 3) := by decide +kernel
theorem dX8_needed_56 : decode cX8_needed 56 = .ok (.iconst 1, 1) := by decide +kernel
theorem dX8_needed_57 : decode cX8_needed 57 = .ok (.iload_n 2, 1) := by decide +kernel
theorem dX8_needed_58 : decode cX8_needed 58 = .ok (.ishl, 1) := by decide +kernel
theorem dX8_needed_59 : decode cX8_needed 59 = .ok (.goto 4, 3) := by decide +kernel
theorem dX8_needed_62 : decode cX8_needed 62 = .ok (.iconst 0, 1) := by decide +kernel
theorem dX8_needed_63 : decode cX8_needed 63 = .ok (.ior, 1) := by decide +kernel
theorem dX8_needed_64 : decode cX8_needed 64 = .ok (.istore_n 1, 1) := by decide +kernel
theorem dX8_needed_65 : decode cX8_needed 65 = .ok (.iinc 2 1, 3) := by decide +kernel
theorem dX8_needed_68 : decode cX8_needed 68 = .ok (.goto (-36), 3) := by decide +kernel
theorem dX8_needed_71 : decode cX8_needed 71 = .ok (.aload_n 0, 1) := by decide +kernel
theorem dX8_needed_72 : decode cX8_needed 72 = .ok (.iconst (-1), 1) := by decide +kernel
theorem dX8_needed_73 : decode cX8_needed 73 = .ok (.putfield 22, 3) := by decide +kernel
theorem dX8_needed_76 : decode cX8_needed 76 = .ok (.iload_n 1, 1) := by decide +kernel
theorem dX8_needed_77 : decode cX8_needed 77 = .ok (.ireturn, 1) := by decide +kernel
theorem dX8_kindFor_0 : decode cX8_kindFor 0 = .ok (.aload_n 0, 1) := by decide +kernel
theorem dX8_kindFor_1 : decode cX8_kindFor 1 = .ok (.iload_n 1, 1) := by decide +kernel
theorem dX8_kindFor_2 : decode cX8_kindFor 2 = .ok (.invokevirtual 123, 3) := by decide +kernel
theorem dX8_kindFor_5 : decode cX8_kindFor 5 = .ok (.ifCond .ne 10, 3) := by decide +kernel
theorem dX8_kindFor_8 : decode cX8_kindFor 8 = .ok (.aload_n 0, 1) := by decide +kernel
theorem dX8_kindFor_9 : decode cX8_kindFor 9 = .ok (.ldc 73, 2) := by decide +kernel
theorem dX8_kindFor_11 : decode cX8_kindFor 11 = .ok (.invokevirtual 101, 3) := by decide +kernel
theorem dX8_kindFor_14 : decode cX8_kindFor 14 = .ok (.ireturn, 1) := by decide +kernel
theorem dX8_kindFor_15 : decode cX8_kindFor 15 = .ok (.aload_n 0, 1) := by decide +kernel
theorem dX8_kindFor_16 : decode cX8_kindFor 16 = .ok (.invokevirtual 229, 3) := by decide +kernel
theorem dX8_kindFor_19 : decode cX8_kindFor 19 = .ok (.aload_n 0, 1) := by decide +kernel
theorem dX8_kindFor_20 : decode cX8_kindFor 20 = .ok (.iload_n 1, 1) := by decide +kernel
theorem dX8_kindFor_21 : decode cX8_kindFor 21 = .ok (.iconst 0, 1) := by decide +kernel
theorem dX8_kindFor_22 : decode cX8_kindFor 22 = .ok (.invokevirtual 113, 3) := by decide +kernel
theorem dX8_kindFor_25 : decode cX8_kindFor 25 = .ok (.istore_n 2, 1) := by decide +kernel
theorem dX8_kindFor_26 : decode cX8_kindFor 26 = .ok (.iconst 0, 1) := by decide +kernel
theorem dX8_kindFor_27 : decode cX8_kindFor 27 = .ok (.istore_n 3, 1) := by decide +kernel
theorem dX8_kindFor_28 : decode cX8_kindFor 28 = .ok (.iload_n 3, 1) := by decide +kernel
theorem dX8_kindFor_29 : decode cX8_kindFor 29 = .ok (.bipush 6, 2) := by decide +kernel
theorem dX8_kindFor_31 : decode cX8_kindFor 31 = .ok (.if_icmp .gt 42, 3) := by decide +kernel
theorem dX8_kindFor_34 : decode cX8_kindFor 34 = .ok (.aload_n 0, 1) := by decide +kernel
theorem dX8_kindFor_35 : decode cX8_kindFor 35 = .ok (.getfield 9, 3) := by decide +kernel
theorem dX8_kindFor_38 : decode cX8_kindFor 38 = .ok (.iload_n 1, 1) := by decide +kernel
theorem dX8_kindFor_39 : decode cX8_kindFor 39 = .ok (.iconst 0, 1) := by decide +kernel
theorem dX8_kindFor_40 : decode cX8_kindFor 40 = .ok (.invokestatic 82, 3) := by decide +kernel
theorem dX8_kindFor_43 : decode cX8_kindFor 43 = .ok (.iload_n 3, 1) := by decide +kernel
theorem dX8_kindFor_44 : decode cX8_kindFor 44 = .ok (.iastore, 1) := by decide +kernel
theorem dX8_kindFor_45 : decode cX8_kindFor 45 = .ok (.aload_n 0, 1) := by decide +kernel
theorem dX8_kindFor_46 : decode cX8_kindFor 46 = .ok (.iload_n 3, 1) := by decide +kernel
theorem dX8_kindFor_47 : decode cX8_kindFor 47 = .ok (.aload_n 0, 1) := by decide +kernel
theorem dX8_kindFor_48 : decode cX8_kindFor 48 = .ok (.invokevirtual 145, 3) := by decide +kernel
theorem dX8_kindFor_51 : decode cX8_kindFor 51 = .ok (.aload_n 0, 1) := by decide +kernel
theorem dX8_kindFor_52 : decode cX8_kindFor 52 = .ok (.iload_n 1, 1) := by decide +kernel
theorem dX8_kindFor_53 : decode cX8_kindFor 53 = .ok (.aload_n 0, 1) := by decide +kernel
theorem dX8_kindFor_54 : decode cX8_kindFor 54 = .ok (.getfield 9, 3) := by decide +kernel
theorem dX8_kindFor_57 : decode cX8_kindFor 57 = .ok (.bipush 50, 2) := by decide +kernel
theorem dX8_kindFor_59 : decode cX8_kindFor 59 = .ok (.iaload, 1) := by decide +kernel
theorem dX8_kindFor_60 : decode cX8_kindFor 60 = .ok (.invokevirtual 167, 3) := by decide +kernel
theorem dX8_kindFor_63 : decode cX8_kindFor 63 = .ok (.isub, 1) := by decide +kernel
theorem dX8_kindFor_64 : decode cX8_kindFor 64 = .ok (.invokevirtual 232, 3) := by decide +kernel
theorem dX8_kindFor_67 : decode cX8_kindFor 67 = .ok (.iinc 3 1, 3) := by decide +kernel
theorem dX8_kindFor_70 : decode cX8_kindFor 70 = .ok (.goto (-42), 3) := by decide +kernel
theorem dX8_kindFor_73 : decode cX8_kindFor 73 = .ok (.aload_n 0, 1) := by decide +kernel
theorem dX8_kindFor_74 : decode cX8_kindFor 74 = .ok (.getfield 9, 3) := by decide +kernel
theorem dX8_kindFor_77 : decode cX8_kindFor 77 = .ok (.iload_n 1, 1) := by decide +kernel
theorem dX8_kindFor_78 : decode cX8_kindFor 78 = .ok (.iconst 0, 1) := by decide +kernel
theorem dX8_kindFor_79 : decode cX8_kindFor 79 = .ok (.invokestatic 82, 3) := by decide +kernel
theorem dX8_kindFor_82 : decode cX8_kindFor 82 = .ok (.iload_n 2, 1) := by decide +kernel
theorem dX8_kindFor_83 : decode cX8_kindFor 83 = .ok (.iastore, 1) := by decide +kernel
theorem dX8_kindFor_84 : decode cX8_kindFor 84 = .ok (.aload_n 0, 1) := by decide +kernel
theorem dX8_kindFor_85 : decode cX8_kindFor 85 = .ok (.getfield 226, 3) := by decide +kernel
theorem dX8_kindFor_88 : decode cX8_kindFor 88 = .ok (.ireturn, 1) := by decide +kernel
theorem dX8_reach_0 : decode cX8_reach 0 = .ok (.iconst 0, 1) := by decide +kernel
theorem dX8_reach_1 : decode cX8_reach 1 = .ok (.istore_n 1, 1) := by decide +kernel
theorem dX8_reach_2 : decode cX8_reach 2 = .ok (.iconst 1, 1) := by decide +kernel
theorem dX8_reach_3 : decode cX8_reach 3 = .ok (.aload_n 0, 1) := by decide +kernel
theorem dX8_reach_4 : decode cX8_reach 4 = .ok (.getfield 9, 3) := by decide +kernel
theorem dX8_reach_7 : decode cX8_reach 7 = .ok (.bipush 49, 2) := by decide +kernel
theorem dX8_reach_9 : decode cX8_reach 9 = .ok (.iaload, 1) := by decide +kernel
theorem dX8_reach_10 : decode cX8_reach 10 = .ok (.ishl, 1) := by decide +kernel
theorem dX8_reach_11 : decode cX8_reach 11 = .ok (.istore_n 2, 1) := by decide +kernel
theorem dX8_reach_12 : decode cX8_reach 12 = .ok (.iload_n 2, 1) := by decide +kernel
theorem dX8_reach_13 : decode cX8_reach 13 = .ok (.iload_n 1, 1) := by decide +kernel
theorem dX8_reach_14 : decode cX8_reach 14 = .ok (.if_icmp .eq 42, 3) := by decide +kernel
theorem dX8_reach_17 : decode cX8_reach 17 = .ok (.iload_n 2, 1) := by decide +kernel
theorem dX8_reach_18 : decode cX8_reach 18 = .ok (.istore_n 1, 1) := by decide +kernel
theorem dX8_reach_19 : decode cX8_reach 19 = .ok (.iconst 0, 1) := by decide +kernel
theorem dX8_reach_20 : decode cX8_reach 20 = .ok (.istore_n 3, 1) := by decide +kernel
theorem dX8_reach_21 : decode cX8_reach 21 = .ok (.iload_n 3, 1) := by decide +kernel
theorem dX8_reach_22 : decode cX8_reach 22 = .ok (.bipush 8, 2) := by decide +kernel
theorem dX8_reach_24 : decode cX8_reach 24 = .ok (.if_icmp .ge 29, 3) := by decide +kernel
theorem dX8_reach_27 : decode cX8_reach 27 = .ok (.iload_n 2, 1) := by decide +kernel
theorem dX8_reach_28 : decode cX8_reach 28 = .ok (.iload_n 1, 1) := by decide +kernel
theorem dX8_reach_29 : decode cX8_reach 29 = .ok (.iload_n 3, 1) := by decide +kernel
theorem dX8_reach_30 : decode cX8_reach 30 = .ok (.invokestatic 185, 3) := by decide +kernel
theorem dX8_reach_33 : decode cX8_reach 33 = .ok (.ifCond .eq 11, 3) := by decide +kernel
theorem dX8_reach_36 : decode cX8_reach 36 = .ok (.aload_n 0, 1) := by decide +kernel
theorem dX8_reach_37 : decode cX8_reach 37 = .ok (.iload_n 3, 1) := by decide +kernel
theorem dX8_reach_38 : decode cX8_reach 38 = .ok (.invokevirtual 141, 3) := by decide +kernel
theorem dX8_reach_41 : decode cX8_reach 41 = .ok (.goto 4, 3) := by decide +kernel
theorem dX8_reach_44 : decode cX8_reach 44 = .ok (.iconst 0, 1) := by decide +kernel
theorem dX8_reach_45 : decode cX8_reach 45 = .ok (.ior, 1) := by decide +kernel
theorem dX8_reach_46 : decode cX8_reach 46 = .ok (.istore_n 2, 1) := by decide +kernel
theorem dX8_reach_47 : decode cX8_reach 47 = .ok (.iinc 3 1, 3) := by decide +kernel
theorem dX8_reach_50 : decode cX8_reach 50 = .ok (.goto (-29), 3) := by decide +kernel
theorem dX8_reach_53 : decode cX8_reach 53 = .ok (.goto (-41), 3) := by decide +kernel
theorem dX8_reach_56 : decode cX8_reach 56 = .ok (.iload_n 1, 1) := by decide +kernel
theorem dX8_reach_57 : decode cX8_reach 57 = .ok (.ireturn, 1) := by decide +kernel
theorem dX8_drawn_0 : decode cX8_drawn 0 = .ok (.aload_n 0, 1) := by decide +kernel
theorem dX8_drawn_1 : decode cX8_drawn 1 = .ok (.getfield 9, 3) := by decide +kernel
theorem dX8_drawn_4 : decode cX8_drawn 4 = .ok (.bipush 9, 2) := by decide +kernel
theorem dX8_drawn_6 : decode cX8_drawn 6 = .ok (.aload_n 0, 1) := by decide +kernel
theorem dX8_drawn_7 : decode cX8_drawn 7 = .ok (.getfield 9, 3) := by decide +kernel
theorem dX8_drawn_10 : decode cX8_drawn 10 = .ok (.bipush 9, 2) := by decide +kernel
theorem dX8_drawn_12 : decode cX8_drawn 12 = .ok (.iaload, 1) := by decide +kernel
theorem dX8_drawn_13 : decode cX8_drawn 13 = .ok (.ldc 242, 2) := by decide +kernel
theorem dX8_drawn_15 : decode cX8_drawn 15 = .ok (.imul, 1) := by decide +kernel
theorem dX8_drawn_16 : decode cX8_drawn 16 = .ok (.sipush 12345, 3) := by decide +kernel
theorem dX8_drawn_19 : decode cX8_drawn 19 = .ok (.iadd, 1) := by decide +kernel
theorem dX8_drawn_20 : decode cX8_drawn 20 = .ok (.iastore, 1) := by decide +kernel
theorem dX8_drawn_21 : decode cX8_drawn 21 = .ok (.aload_n 0, 1) := by decide +kernel
theorem dX8_drawn_22 : decode cX8_drawn 22 = .ok (.getfield 9, 3) := by decide +kernel
theorem dX8_drawn_25 : decode cX8_drawn 25 = .ok (.bipush 9, 2) := by decide +kernel
theorem dX8_drawn_27 : decode cX8_drawn 27 = .ok (.iaload, 1) := by decide +kernel
theorem dX8_drawn_28 : decode cX8_drawn 28 = .ok (.bipush 8, 2) := by decide +kernel
theorem dX8_drawn_30 : decode cX8_drawn 30 = .ok (.iushr, 1) := by decide +kernel
theorem dX8_drawn_31 : decode cX8_drawn 31 = .ok (.iload_n 1, 1) := by decide +kernel
theorem dX8_drawn_32 : decode cX8_drawn 32 = .ok (.irem, 1) := by decide +kernel
theorem dX8_drawn_33 : decode cX8_drawn 33 = .ok (.ireturn, 1) := by decide +kernel
theorem dX8_sum_0 : decode cX8_sum 0 = .ok (.iconst 0, 1) := by decide +kernel
theorem dX8_sum_1 : decode cX8_sum 1 = .ok (.istore_n 3, 1) := by decide +kernel
theorem dX8_sum_2 : decode cX8_sum 2 = .ok (.iconst 0, 1) := by decide +kernel
theorem dX8_sum_3 : decode cX8_sum 3 = .ok (.istore 4, 2) := by decide +kernel
theorem dX8_sum_5 : decode cX8_sum 5 = .ok (.iload 4, 2) := by decide +kernel
theorem dX8_sum_7 : decode cX8_sum 7 = .ok (.iload_n 2, 1) := by decide +kernel
theorem dX8_sum_8 : decode cX8_sum 8 = .ok (.if_icmp .ge 21, 3) := by decide +kernel
theorem dX8_sum_11 : decode cX8_sum 11 = .ok (.iload_n 3, 1) := by decide +kernel
theorem dX8_sum_12 : decode cX8_sum 12 = .ok (.aload_n 0, 1) := by decide +kernel
theorem dX8_sum_13 : decode cX8_sum 13 = .ok (.getfield 9, 3) := by decide +kernel
theorem dX8_sum_16 : decode cX8_sum 16 = .ok (.iload_n 1, 1) := by decide +kernel
theorem dX8_sum_17 : decode cX8_sum 17 = .ok (.iload 4, 2) := by decide +kernel
theorem dX8_sum_19 : decode cX8_sum 19 = .ok (.iadd, 1) := by decide +kernel
theorem dX8_sum_20 : decode cX8_sum 20 = .ok (.iaload, 1) := by decide +kernel
theorem dX8_sum_21 : decode cX8_sum 21 = .ok (.iadd, 1) := by decide +kernel
theorem dX8_sum_22 : decode cX8_sum 22 = .ok (.istore_n 3, 1) := by decide +kernel
theorem dX8_sum_23 : decode cX8_sum 23 = .ok (.iinc 4 1, 3) := by decide +kernel
theorem dX8_sum_26 : decode cX8_sum 26 = .ok (.goto (-21), 3) := by decide +kernel
theorem dX8_sum_29 : decode cX8_sum 29 = .ok (.iload_n 3, 1) := by decide +kernel
theorem dX8_sum_30 : decode cX8_sum 30 = .ok (.ireturn, 1) := by decide +kernel
theorem dX8_sky_0 : decode cX8_sky 0 = .ok (.iload_n 1, 1) := by decide +kernel
theorem dX8_sky_1 : decode cX8_sky 1 = .ok (.iconst 1, 1) := by decide +kernel
theorem dX8_sky_2 : decode cX8_sky 2 = .ok (.bipush 12, 2) := by decide +kernel
theorem dX8_sky_4 : decode cX8_sky 4 = .ok (.invokestatic 78, 3) := by decide +kernel
theorem dX8_sky_7 : decode cX8_sky 7 = .ok (.ifCond .ne 10, 3) := by decide +kernel
theorem dX8_sky_10 : decode cX8_sky 10 = .ok (.aload_n 0, 1) := by decide +kernel
theorem dX8_sky_11 : decode cX8_sky 11 = .ok (.ldc 73, 2) := by decide +kernel
theorem dX8_sky_13 : decode cX8_sky 13 = .ok (.invokevirtual 101, 3) := by decide +kernel
theorem dX8_sky_16 : decode cX8_sky 16 = .ok (.ireturn, 1) := by decide +kernel
theorem dX8_sky_17 : decode cX8_sky 17 = .ok (.iconst 0, 1) := by decide +kernel
theorem dX8_sky_18 : decode cX8_sky 18 = .ok (.istore_n 2, 1) := by decide +kernel
theorem dX8_sky_19 : decode cX8_sky 19 = .ok (.iload_n 2, 1) := by decide +kernel
theorem dX8_sky_20 : decode cX8_sky 20 = .ok (.iload_n 1, 1) := by decide +kernel
theorem dX8_sky_21 : decode cX8_sky 21 = .ok (.if_icmp .ge 52, 3) := by decide +kernel
theorem dX8_sky_24 : decode cX8_sky 24 = .ok (.aload_n 0, 1) := by decide +kernel
theorem dX8_sky_25 : decode cX8_sky 25 = .ok (.bipush 12, 2) := by decide +kernel
theorem dX8_sky_27 : decode cX8_sky 27 = .ok (.invokevirtual 243, 3) := by decide +kernel
theorem dX8_sky_30 : decode cX8_sky 30 = .ok (.istore_n 3, 1) := by decide +kernel
theorem dX8_sky_31 : decode cX8_sky 31 = .ok (.aload_n 0, 1) := by decide +kernel
theorem dX8_sky_32 : decode cX8_sky 32 = .ok (.getfield 9, 3) := by decide +kernel
theorem dX8_sky_35 : decode cX8_sky 35 = .ok (.bipush 20, 2) := by decide +kernel
theorem dX8_sky_37 : decode cX8_sky 37 = .ok (.iload_n 3, 1) := by decide +kernel
theorem dX8_sky_38 : decode cX8_sky 38 = .ok (.iadd, 1) := by decide +kernel
theorem dX8_sky_39 : decode cX8_sky 39 = .ok (.aload_n 0, 1) := by decide +kernel
theorem dX8_sky_40 : decode cX8_sky 40 = .ok (.bipush 10, 2) := by decide +kernel
theorem dX8_sky_42 : decode cX8_sky 42 = .ok (.invokevirtual 243, 3) := by decide +kernel
theorem dX8_sky_45 : decode cX8_sky 45 = .ok (.iastore, 1) := by decide +kernel
theorem dX8_sky_46 : decode cX8_sky 46 = .ok (.aload_n 0, 1) := by decide +kernel
theorem dX8_sky_47 : decode cX8_sky 47 = .ok (.getfield 9, 3) := by decide +kernel
theorem dX8_sky_50 : decode cX8_sky 50 = .ok (.bipush 32, 2) := by decide +kernel
theorem dX8_sky_52 : decode cX8_sky 52 = .ok (.iload_n 3, 1) := by decide +kernel
theorem dX8_sky_53 : decode cX8_sky 53 = .ok (.iadd, 1) := by decide +kernel
theorem dX8_sky_54 : decode cX8_sky 54 = .ok (.iconst 0, 1) := by decide +kernel
theorem dX8_sky_55 : decode cX8_sky 55 = .ok (.aload_n 0, 1) := by decide +kernel
theorem dX8_sky_56 : decode cX8_sky 56 = .ok (.bipush 10, 2) := by decide +kernel
theorem dX8_sky_58 : decode cX8_sky 58 = .ok (.invokevirtual 243, 3) := by decide +kernel
theorem dX8_sky_61 : decode cX8_sky 61 = .ok (.iconst 5, 1) := by decide +kernel
theorem dX8_sky_62 : decode cX8_sky 62 = .ok (.isub, 1) := by decide +kernel
theorem dX8_sky_63 : decode cX8_sky 63 = .ok (.invokestatic 91, 3) := by decide +kernel
theorem dX8_sky_66 : decode cX8_sky 66 = .ok (.iastore, 1) := by decide +kernel
theorem dX8_sky_67 : decode cX8_sky 67 = .ok (.iinc 2 1, 3) := by decide +kernel
theorem dX8_sky_70 : decode cX8_sky 70 = .ok (.goto (-51), 3) := by decide +kernel
theorem dX8_sky_73 : decode cX8_sky 73 = .ok (.aload_n 0, 1) := by decide +kernel
theorem dX8_sky_74 : decode cX8_sky 74 = .ok (.bipush 32, 2) := by decide +kernel
theorem dX8_sky_76 : decode cX8_sky 76 = .ok (.bipush 12, 2) := by decide +kernel
theorem dX8_sky_78 : decode cX8_sky 78 = .ok (.invokevirtual 246, 3) := by decide +kernel
theorem dX8_sky_81 : decode cX8_sky 81 = .ok (.ireturn, 1) := by decide +kernel
theorem dX8_stray_0 : decode cX8_stray 0 = .ok (.iload_n 1, 1) := by decide +kernel
theorem dX8_stray_1 : decode cX8_stray 1 = .ok (.iconst 1, 1) := by decide +kernel
theorem dX8_stray_2 : decode cX8_stray 2 = .ok (.bipush 12, 2) := by decide +kernel
theorem dX8_stray_4 : decode cX8_stray 4 = .ok (.invokestatic 78, 3) := by decide +kernel
theorem dX8_stray_7 : decode cX8_stray 7 = .ok (.ifCond .ne 10, 3) := by decide +kernel
theorem dX8_stray_10 : decode cX8_stray 10 = .ok (.aload_n 0, 1) := by decide +kernel
theorem dX8_stray_11 : decode cX8_stray 11 = .ok (.ldc 73, 2) := by decide +kernel
theorem dX8_stray_13 : decode cX8_stray 13 = .ok (.invokevirtual 101, 3) := by decide +kernel
theorem dX8_stray_16 : decode cX8_stray 16 = .ok (.ireturn, 1) := by decide +kernel
theorem dX8_stray_17 : decode cX8_stray 17 = .ok (.iconst 1, 1) := by decide +kernel
theorem dX8_stray_18 : decode cX8_stray 18 = .ok (.istore_n 2, 1) := by decide +kernel
theorem dX8_stray_19 : decode cX8_stray 19 = .ok (.iconst 0, 1) := by decide +kernel
theorem dX8_stray_20 : decode cX8_stray 20 = .ok (.istore_n 3, 1) := by decide +kernel
theorem dX8_stray_21 : decode cX8_stray 21 = .ok (.iload_n 3, 1) := by decide +kernel
theorem dX8_stray_22 : decode cX8_stray 22 = .ok (.iload_n 1, 1) := by decide +kernel
theorem dX8_stray_23 : decode cX8_stray 23 = .ok (.if_icmp .ge 162, 3) := by decide +kernel
theorem dX8_stray_26 : decode cX8_stray 26 = .ok (.iload_n 2, 1) := by decide +kernel
theorem dX8_stray_27 : decode cX8_stray 27 = .ok (.ifCond .eq 158, 3) := by decide +kernel
theorem dX8_stray_30 : decode cX8_stray 30 = .ok (.aload_n 0, 1) := by decide +kernel
theorem dX8_stray_31 : decode cX8_stray 31 = .ok (.aload_n 0, 1) := by decide +kernel
theorem dX8_stray_32 : decode cX8_stray 32 = .ok (.getfield 9, 3) := by decide +kernel
theorem dX8_stray_35 : decode cX8_stray 35 = .ok (.bipush 49, 2) := by decide +kernel
theorem dX8_stray_37 : decode cX8_stray 37 = .ok (.iaload, 1) := by decide +kernel
theorem dX8_stray_38 : decode cX8_stray 38 = .ok (.invokevirtual 141, 3) := by decide +kernel
theorem dX8_stray_41 : decode cX8_stray 41 = .ok (.istore 4, 2) := by decide +kernel
theorem dX8_stray_43 : decode cX8_stray 43 = .ok (.iload 4, 2) := by decide +kernel
theorem dX8_stray_45 : decode cX8_stray 45 = .ok (.ifCond .eq 7, 3) := by decide +kernel
theorem dX8_stray_48 : decode cX8_stray 48 = .ok (.iconst 1, 1) := by decide +kernel
theorem dX8_stray_49 : decode cX8_stray 49 = .ok (.goto 4, 3) := by decide +kernel
theorem dX8_stray_52 : decode cX8_stray 52 = .ok (.iconst 0, 1) := by decide +kernel
theorem dX8_stray_53 : decode cX8_stray 53 = .ok (.istore_n 2, 1) := by decide +kernel
theorem dX8_stray_54 : decode cX8_stray 54 = .ok (.iload_n 2, 1) := by decide +kernel
theorem dX8_stray_55 : decode cX8_stray 55 = .ok (.ifCond .eq 15, 3) := by decide +kernel
theorem dX8_stray_58 : decode cX8_stray 58 = .ok (.aload_n 0, 1) := by decide +kernel
theorem dX8_stray_59 : decode cX8_stray 59 = .ok (.iload 4, 2) := by decide +kernel
theorem dX8_stray_61 : decode cX8_stray 61 = .ok (.invokestatic 164, 3) := by decide +kernel
theorem dX8_stray_64 : decode cX8_stray 64 = .ok (.invokevirtual 243, 3) := by decide +kernel
theorem dX8_stray_67 : decode cX8_stray 67 = .ok (.goto 4, 3) := by decide +kernel
theorem dX8_stray_70 : decode cX8_stray 70 = .ok (.iconst 0, 1) := by decide +kernel
theorem dX8_stray_71 : decode cX8_stray 71 = .ok (.istore 5, 2) := by decide +kernel
theorem dX8_stray_73 : decode cX8_stray 73 = .ok (.iconst 0, 1) := by decide +kernel
theorem dX8_stray_74 : decode cX8_stray 74 = .ok (.istore 6, 2) := by decide +kernel
theorem dX8_stray_76 : decode cX8_stray 76 = .ok (.iload_n 2, 1) := by decide +kernel
theorem dX8_stray_77 : decode cX8_stray 77 = .ok (.ifCond .eq 44, 3) := by decide +kernel
theorem dX8_stray_80 : decode cX8_stray 80 = .ok (.iload 4, 2) := by decide +kernel
theorem dX8_stray_82 : decode cX8_stray 82 = .ok (.iload 6, 2) := by decide +kernel
theorem dX8_stray_84 : decode cX8_stray 84 = .ok (.invokestatic 185, 3) := by decide +kernel
theorem dX8_stray_87 : decode cX8_stray 87 = .ok (.ifCond .eq 8, 3) := by decide +kernel
theorem dX8_stray_90 : decode cX8_stray 90 = .ok (.iload 5, 2) := by decide +kernel
theorem dX8_stray_92 : decode cX8_stray 92 = .ok (.ifCond .le 29, 3) := by decide +kernel
theorem dX8_stray_95 : decode cX8_stray 95 = .ok (.iload 5, 2) := by decide +kernel
theorem dX8_stray_97 : decode cX8_stray 97 = .ok (.iload 4, 2) := by decide +kernel
theorem dX8_stray_99 : decode cX8_stray 99 = .ok (.iload 6, 2) := by decide +kernel
theorem dX8_stray_101 : decode cX8_stray 101 = .ok (.invokestatic 185, 3) := by decide +kernel
theorem dX8_stray_104 : decode cX8_stray 104 = .ok (.ifCond .eq 7, 3) := by decide +kernel
theorem dX8_stray_107 : decode cX8_stray 107 = .ok (.iconst 1, 1) := by decide +kernel
theorem dX8_stray_108 : decode cX8_stray 108 = .ok (.goto 4, 3) := by decide +kernel
theorem dX8_stray_111 : decode cX8_stray 111 = .ok (.iconst 0, 1) := by decide +kernel
theorem dX8_stray_112 : decode cX8_stray 112 = .ok (.isub, 1) := by decide +kernel
theorem dX8_stray_113 : decode cX8_stray 113 = .ok (.istore 5, 2) := by decide +kernel
theorem dX8_stray_115 : decode cX8_stray 115 = .ok (.iinc 6 1, 3) := by decide +kernel
theorem dX8_stray_118 : decode cX8_stray 118 = .ok (.goto (-42), 3) := by decide +kernel
theorem dX8_stray_121 : decode cX8_stray 121 = .ok (.iload_n 2, 1) := by decide +kernel
theorem dX8_stray_122 : decode cX8_stray 122 = .ok (.ifCond .eq 19, 3) := by decide +kernel
theorem dX8_stray_125 : decode cX8_stray 125 = .ok (.aload_n 0, 1) := by decide +kernel
theorem dX8_stray_126 : decode cX8_stray 126 = .ok (.aload_n 0, 1) := by decide +kernel
theorem dX8_stray_127 : decode cX8_stray 127 = .ok (.getfield 9, 3) := by decide +kernel
theorem dX8_stray_130 : decode cX8_stray 130 = .ok (.bipush 49, 2) := by decide +kernel
theorem dX8_stray_132 : decode cX8_stray 132 = .ok (.iaload, 1) := by decide +kernel
theorem dX8_stray_133 : decode cX8_stray 133 = .ok (.iload 6, 2) := by decide +kernel
theorem dX8_stray_135 : decode cX8_stray 135 = .ok (.invokevirtual 138, 3) := by decide +kernel
theorem dX8_stray_138 : decode cX8_stray 138 = .ok (.goto 4, 3) := by decide +kernel
theorem dX8_stray_141 : decode cX8_stray 141 = .ok (.iconst (-1), 1) := by decide +kernel
theorem dX8_stray_142 : decode cX8_stray 142 = .ok (.istore 7, 2) := by decide +kernel
theorem dX8_stray_144 : decode cX8_stray 144 = .ok (.iload_n 2, 1) := by decide +kernel
theorem dX8_stray_145 : decode cX8_stray 145 = .ok (.ifCond .eq 20, 3) := by decide +kernel
theorem dX8_stray_148 : decode cX8_stray 148 = .ok (.aload_n 0, 1) := by decide +kernel
theorem dX8_stray_149 : decode cX8_stray 149 = .ok (.aload_n 0, 1) := by decide +kernel
theorem dX8_stray_150 : decode cX8_stray 150 = .ok (.iload 7, 2) := by decide +kernel
theorem dX8_stray_152 : decode cX8_stray 152 = .ok (.invokevirtual 126, 3) := by decide +kernel
theorem dX8_stray_155 : decode cX8_stray 155 = .ok (.invokevirtual 156, 3) := by decide +kernel
theorem dX8_stray_158 : decode cX8_stray 158 = .ok (.ifCond .ne 7, 3) := by decide +kernel
theorem dX8_stray_161 : decode cX8_stray 161 = .ok (.iconst 1, 1) := by decide +kernel
theorem dX8_stray_162 : decode cX8_stray 162 = .ok (.goto 4, 3) := by decide +kernel
theorem dX8_stray_165 : decode cX8_stray 165 = .ok (.iconst 0, 1) := by decide +kernel
theorem dX8_stray_166 : decode cX8_stray 166 = .ok (.istore_n 2, 1) := by decide +kernel
theorem dX8_stray_167 : decode cX8_stray 167 = .ok (.iload_n 2, 1) := by decide +kernel
theorem dX8_stray_168 : decode cX8_stray 168 = .ok (.ifCond .eq 11, 3) := by decide +kernel
theorem dX8_stray_171 : decode cX8_stray 171 = .ok (.aload_n 0, 1) := by decide +kernel
theorem dX8_stray_172 : decode cX8_stray 172 = .ok (.iload 7, 2) := by decide +kernel
theorem dX8_stray_174 : decode cX8_stray 174 = .ok (.iload 6, 2) := by decide +kernel
theorem dX8_stray_176 : decode cX8_stray 176 = .ok (.invokevirtual 160, 3) := by decide +kernel
theorem dX8_stray_179 : decode cX8_stray 179 = .ok (.iinc 3 1, 3) := by decide +kernel
theorem dX8_stray_182 : decode cX8_stray 182 = .ok (.goto (-161), 3) := by decide +kernel
theorem dX8_stray_185 : decode cX8_stray 185 = .ok (.aload_n 0, 1) := by decide +kernel
theorem dX8_stray_186 : decode cX8_stray 186 = .ok (.invokevirtual 145, 3) := by decide +kernel
theorem dX8_stray_189 : decode cX8_stray 189 = .ok (.ireturn, 1) := by decide +kernel
theorem dX8_year_0 : decode cX8_year 0 = .ok (.aload_n 0, 1) := by decide +kernel
theorem dX8_year_1 : decode cX8_year 1 = .ok (.invokevirtual 145, 3) := by decide +kernel
theorem dX8_year_4 : decode cX8_year 4 = .ok (.istore_n 1, 1) := by decide +kernel
theorem dX8_year_5 : decode cX8_year 5 = .ok (.aload_n 0, 1) := by decide +kernel
theorem dX8_year_6 : decode cX8_year 6 = .ok (.getfield 9, 3) := by decide +kernel
theorem dX8_year_9 : decode cX8_year 9 = .ok (.bipush 45, 2) := by decide +kernel
theorem dX8_year_11 : decode cX8_year 11 = .ok (.iload_n 1, 1) := by decide +kernel
theorem dX8_year_12 : decode cX8_year 12 = .ok (.bipush 10, 2) := by decide +kernel
theorem dX8_year_14 : decode cX8_year 14 = .ok (.idiv, 1) := by decide +kernel
theorem dX8_year_15 : decode cX8_year 15 = .ok (.iastore, 1) := by decide +kernel
theorem dX8_year_16 : decode cX8_year 16 = .ok (.aload_n 0, 1) := by decide +kernel
theorem dX8_year_17 : decode cX8_year 17 = .ok (.getfield 9, 3) := by decide +kernel
theorem dX8_year_20 : decode cX8_year 20 = .ok (.bipush 46, 2) := by decide +kernel
theorem dX8_year_22 : decode cX8_year 22 = .ok (.iconst 2, 1) := by decide +kernel
theorem dX8_year_23 : decode cX8_year 23 = .ok (.iload_n 1, 1) := by decide +kernel
theorem dX8_year_24 : decode cX8_year 24 = .ok (.imul, 1) := by decide +kernel
theorem dX8_year_25 : decode cX8_year 25 = .ok (.bipush 10, 2) := by decide +kernel
theorem dX8_year_27 : decode cX8_year 27 = .ok (.idiv, 1) := by decide +kernel
theorem dX8_year_28 : decode cX8_year 28 = .ok (.iastore, 1) := by decide +kernel
theorem dX8_year_29 : decode cX8_year 29 = .ok (.aload_n 0, 1) := by decide +kernel
theorem dX8_year_30 : decode cX8_year 30 = .ok (.getfield 9, 3) := by decide +kernel
theorem dX8_year_33 : decode cX8_year 33 = .ok (.bipush 47, 2) := by decide +kernel
theorem dX8_year_35 : decode cX8_year 35 = .ok (.iconst 2, 1) := by decide +kernel
theorem dX8_year_36 : decode cX8_year 36 = .ok (.iload_n 1, 1) := by decide +kernel
theorem dX8_year_37 : decode cX8_year 37 = .ok (.imul, 1) := by decide +kernel
theorem dX8_year_38 : decode cX8_year 38 = .ok (.bipush 10, 2) := by decide +kernel
theorem dX8_year_40 : decode cX8_year 40 = .ok (.idiv, 1) := by decide +kernel
theorem dX8_year_41 : decode cX8_year 41 = .ok (.iastore, 1) := by decide +kernel
theorem dX8_year_42 : decode cX8_year 42 = .ok (.aload_n 0, 1) := by decide +kernel
theorem dX8_year_43 : decode cX8_year 43 = .ok (.getfield 9, 3) := by decide +kernel
theorem dX8_year_46 : decode cX8_year 46 = .ok (.bipush 48, 2) := by decide +kernel
theorem dX8_year_48 : decode cX8_year 48 = .ok (.iload_n 1, 1) := by decide +kernel
theorem dX8_year_49 : decode cX8_year 49 = .ok (.aload_n 0, 1) := by decide +kernel
theorem dX8_year_50 : decode cX8_year 50 = .ok (.getfield 9, 3) := by decide +kernel
theorem dX8_year_53 : decode cX8_year 53 = .ok (.bipush 45, 2) := by decide +kernel
theorem dX8_year_55 : decode cX8_year 55 = .ok (.iaload, 1) := by decide +kernel
theorem dX8_year_56 : decode cX8_year 56 = .ok (.isub, 1) := by decide +kernel
theorem dX8_year_57 : decode cX8_year 57 = .ok (.aload_n 0, 1) := by decide +kernel
theorem dX8_year_58 : decode cX8_year 58 = .ok (.getfield 9, 3) := by decide +kernel
theorem dX8_year_61 : decode cX8_year 61 = .ok (.bipush 46, 2) := by decide +kernel
theorem dX8_year_63 : decode cX8_year 63 = .ok (.iaload, 1) := by decide +kernel
theorem dX8_year_64 : decode cX8_year 64 = .ok (.isub, 1) := by decide +kernel
theorem dX8_year_65 : decode cX8_year 65 = .ok (.aload_n 0, 1) := by decide +kernel
theorem dX8_year_66 : decode cX8_year 66 = .ok (.getfield 9, 3) := by decide +kernel
theorem dX8_year_69 : decode cX8_year 69 = .ok (.bipush 47, 2) := by decide +kernel
theorem dX8_year_71 : decode cX8_year 71 = .ok (.iaload, 1) := by decide +kernel
theorem dX8_year_72 : decode cX8_year 72 = .ok (.isub, 1) := by decide +kernel
theorem dX8_year_73 : decode cX8_year 73 = .ok (.iastore, 1) := by decide +kernel
theorem dX8_year_74 : decode cX8_year 74 = .ok (.aload_n 0, 1) := by decide +kernel
theorem dX8_year_75 : decode cX8_year 75 = .ok (.invokevirtual 249, 3) := by decide +kernel
theorem dX8_year_78 : decode cX8_year 78 = .ok (.istore_n 2, 1) := by decide +kernel
theorem dX8_year_79 : decode cX8_year 79 = .ok (.iload_n 2, 1) := by decide +kernel
theorem dX8_year_80 : decode cX8_year 80 = .ok (.ifCond .ge 7, 3) := by decide +kernel
theorem dX8_year_83 : decode cX8_year 83 = .ok (.iload_n 2, 1) := by decide +kernel
theorem dX8_year_84 : decode cX8_year 84 = .ok (.goto 4, 3) := by decide +kernel
theorem dX8_year_87 : decode cX8_year 87 = .ok (.iload_n 1, 1) := by decide +kernel
theorem dX8_year_88 : decode cX8_year 88 = .ok (.ireturn, 1) := by decide +kernel
theorem dX8_seed_0 : decode cX8_seed 0 = .ok (.aload_n 0, 1) := by decide +kernel
theorem dX8_seed_1 : decode cX8_seed 1 = .ok (.bipush 9, 2) := by decide +kernel
theorem dX8_seed_3 : decode cX8_seed 3 = .ok (.iload_n 1, 1) := by decide +kernel
theorem dX8_seed_4 : decode cX8_seed 4 = .ok (.invokevirtual 129, 3) := by decide +kernel
theorem dX8_seed_7 : decode cX8_seed 7 = .ok (.ireturn, 1) := by decide +kernel
theorem dX8_feed_0 : decode cX8_feed 0 = .ok (.iload_n 2, 1) := by decide +kernel
theorem dX8_feed_1 : decode cX8_feed 1 = .ok (.iconst 1, 1) := by decide +kernel
theorem dX8_feed_2 : decode cX8_feed 2 = .ok (.iconst 4, 1) := by decide +kernel
theorem dX8_feed_3 : decode cX8_feed 3 = .ok (.invokestatic 78, 3) := by decide +kernel
theorem dX8_feed_6 : decode cX8_feed 6 = .ok (.ifCond .ne 10, 3) := by decide +kernel
theorem dX8_feed_9 : decode cX8_feed 9 = .ok (.aload_n 0, 1) := by decide +kernel
theorem dX8_feed_10 : decode cX8_feed 10 = .ok (.ldc 73, 2) := by decide +kernel
theorem dX8_feed_12 : decode cX8_feed 12 = .ok (.invokevirtual 101, 3) := by decide +kernel
theorem dX8_feed_15 : decode cX8_feed 15 = .ok (.ireturn, 1) := by decide +kernel
theorem dX8_feed_16 : decode cX8_feed 16 = .ok (.aload_n 0, 1) := by decide +kernel
theorem dX8_feed_17 : decode cX8_feed 17 = .ok (.getfield 252, 3) := by decide +kernel
theorem dX8_feed_20 : decode cX8_feed 20 = .ok (.iload_n 2, 1) := by decide +kernel
theorem dX8_feed_21 : decode cX8_feed 21 = .ok (.iadd, 1) := by decide +kernel
theorem dX8_feed_22 : decode cX8_feed 22 = .ok (.bipush 120, 2) := by decide +kernel
theorem dX8_feed_24 : decode cX8_feed 24 = .ok (.if_icmp .le 10, 3) := by decide +kernel
theorem dX8_feed_27 : decode cX8_feed 27 = .ok (.aload_n 0, 1) := by decide +kernel
theorem dX8_feed_28 : decode cX8_feed 28 = .ok (.ldc 105, 2) := by decide +kernel
theorem dX8_feed_30 : decode cX8_feed 30 = .ok (.invokevirtual 101, 3) := by decide +kernel
theorem dX8_feed_33 : decode cX8_feed 33 = .ok (.ireturn, 1) := by decide +kernel
theorem dX8_feed_34 : decode cX8_feed 34 = .ok (.iload_n 2, 1) := by decide +kernel
theorem dX8_feed_35 : decode cX8_feed 35 = .ok (.iconst 1, 1) := by decide +kernel
theorem dX8_feed_36 : decode cX8_feed 36 = .ok (.isub, 1) := by decide +kernel
theorem dX8_feed_37 : decode cX8_feed 37 = .ok (.istore_n 3, 1) := by decide +kernel
theorem dX8_feed_38 : decode cX8_feed 38 = .ok (.iload_n 3, 1) := by decide +kernel
theorem dX8_feed_39 : decode cX8_feed 39 = .ok (.ifCond .lt 38, 3) := by decide +kernel
theorem dX8_feed_42 : decode cX8_feed 42 = .ok (.aload_n 0, 1) := by decide +kernel
theorem dX8_feed_43 : decode cX8_feed 43 = .ok (.getfield 35, 3) := by decide +kernel
theorem dX8_feed_46 : decode cX8_feed 46 = .ok (.aload_n 0, 1) := by decide +kernel
theorem dX8_feed_47 : decode cX8_feed 47 = .ok (.getfield 252, 3) := by decide +kernel
theorem dX8_feed_50 : decode cX8_feed 50 = .ok (.iload_n 1, 1) := by decide +kernel
theorem dX8_feed_51 : decode cX8_feed 51 = .ok (.bipush 8, 2) := by decide +kernel
theorem dX8_feed_53 : decode cX8_feed 53 = .ok (.iload_n 3, 1) := by decide +kernel
theorem dX8_feed_54 : decode cX8_feed 54 = .ok (.imul, 1) := by decide +kernel
theorem dX8_feed_55 : decode cX8_feed 55 = .ok (.ishr, 1) := by decide +kernel
theorem dX8_feed_56 : decode cX8_feed 56 = .ok (.sipush 255, 3) := by decide +kernel
theorem dX8_feed_59 : decode cX8_feed 59 = .ok (.iand, 1) := by decide +kernel
theorem dX8_feed_60 : decode cX8_feed 60 = .ok (.iastore, 1) := by decide +kernel
theorem dX8_feed_61 : decode cX8_feed 61 = .ok (.aload_n 0, 1) := by decide +kernel
theorem dX8_feed_62 : decode cX8_feed 62 = .ok (.dup, 1) := by decide +kernel
theorem dX8_feed_63 : decode cX8_feed 63 = .ok (.getfield 252, 3) := by decide +kernel
theorem dX8_feed_66 : decode cX8_feed 66 = .ok (.iconst 1, 1) := by decide +kernel
theorem dX8_feed_67 : decode cX8_feed 67 = .ok (.iadd, 1) := by decide +kernel
theorem dX8_feed_68 : decode cX8_feed 68 = .ok (.putfield 252, 3) := by decide +kernel
theorem dX8_feed_71 : decode cX8_feed 71 = .ok (.iinc 3 (-1), 3) := by decide +kernel
theorem dX8_feed_74 : decode cX8_feed 74 = .ok (.goto (-36), 3) := by decide +kernel
theorem dX8_feed_77 : decode cX8_feed 77 = .ok (.aload_n 0, 1) := by decide +kernel
theorem dX8_feed_78 : decode cX8_feed 78 = .ok (.getfield 252, 3) := by decide +kernel
theorem dX8_feed_81 : decode cX8_feed 81 = .ok (.ireturn, 1) := by decide +kernel
theorem dX8_wipe_0 : decode cX8_wipe 0 = .ok (.aload_n 0, 1) := by decide +kernel
theorem dX8_wipe_1 : decode cX8_wipe 1 = .ok (.getfield 252, 3) := by decide +kernel
theorem dX8_wipe_4 : decode cX8_wipe 4 = .ok (.istore_n 1, 1) := by decide +kernel
theorem dX8_wipe_5 : decode cX8_wipe 5 = .ok (.aload_n 0, 1) := by decide +kernel
theorem dX8_wipe_6 : decode cX8_wipe 6 = .ok (.iconst 0, 1) := by decide +kernel
theorem dX8_wipe_7 : decode cX8_wipe 7 = .ok (.putfield 252, 3) := by decide +kernel
theorem dX8_wipe_10 : decode cX8_wipe 10 = .ok (.iload_n 1, 1) := by decide +kernel
theorem dX8_wipe_11 : decode cX8_wipe 11 = .ok (.ireturn, 1) := by decide +kernel
theorem dX8_byteAt_0 : decode cX8_byteAt 0 = .ok (.iload_n 1, 1) := by decide +kernel
theorem dX8_byteAt_1 : decode cX8_byteAt 1 = .ok (.aload_n 0, 1) := by decide +kernel
theorem dX8_byteAt_2 : decode cX8_byteAt 2 = .ok (.getfield 252, 3) := by decide +kernel
theorem dX8_byteAt_5 : decode cX8_byteAt 5 = .ok (.if_icmp .ge 12, 3) := by decide +kernel
theorem dX8_byteAt_8 : decode cX8_byteAt 8 = .ok (.aload_n 0, 1) := by decide +kernel
theorem dX8_byteAt_9 : decode cX8_byteAt 9 = .ok (.getfield 35, 3) := by decide +kernel
theorem dX8_byteAt_12 : decode cX8_byteAt 12 = .ok (.iload_n 1, 1) := by decide +kernel
theorem dX8_byteAt_13 : decode cX8_byteAt 13 = .ok (.iaload, 1) := by decide +kernel
theorem dX8_byteAt_14 : decode cX8_byteAt 14 = .ok (.goto 4, 3) := by decide +kernel
theorem dX8_byteAt_17 : decode cX8_byteAt 17 = .ok (.iconst (-1), 1) := by decide +kernel
theorem dX8_byteAt_18 : decode cX8_byteAt 18 = .ok (.ireturn, 1) := by decide +kernel
theorem dX8_next__0 : decode cX8_next_ 0 = .ok (.aload_n 0, 1) := by decide +kernel
theorem dX8_next__1 : decode cX8_next_ 1 = .ok (.aload_n 0, 1) := by decide +kernel
theorem dX8_next__2 : decode cX8_next_ 2 = .ok (.getfield 255, 3) := by decide +kernel
theorem dX8_next__5 : decode cX8_next_ 5 = .ok (.putfield 258, 3) := by decide +kernel
theorem dX8_next__8 : decode cX8_next_ 8 = .ok (.aload_n 0, 1) := by decide +kernel
theorem dX8_next__9 : decode cX8_next_ 9 = .ok (.aload_n 0, 1) := by decide +kernel
theorem dX8_next__10 : decode cX8_next_ 10 = .ok (.getfield 258, 3) := by decide +kernel
theorem dX8_next__13 : decode cX8_next_ 13 = .ok (.invokevirtual 261, 3) := by decide +kernel
theorem dX8_next__16 : decode cX8_next_ 16 = .ok (.bipush 32, 2) := by decide +kernel
theorem dX8_next__18 : decode cX8_next_ 18 = .ok (.if_icmp .ne 16, 3) := by decide +kernel
theorem dX8_next__21 : decode cX8_next_ 21 = .ok (.aload_n 0, 1) := by decide +kernel
theorem dX8_next__22 : decode cX8_next_ 22 = .ok (.dup, 1) := by decide +kernel
theorem dX8_next__23 : decode cX8_next_ 23 = .ok (.getfield 258, 3) := by decide +kernel
theorem dX8_next__26 : decode cX8_next_ 26 = .ok (.iconst 1, 1) := by decide +kernel
theorem dX8_next__27 : decode cX8_next_ 27 = .ok (.iadd, 1) := by decide +kernel
theorem dX8_next__28 : decode cX8_next_ 28 = .ok (.putfield 258, 3) := by decide +kernel
theorem dX8_next__31 : decode cX8_next_ 31 = .ok (.goto (-23), 3) := by decide +kernel
theorem dX8_next__34 : decode cX8_next_ 34 = .ok (.aload_n 0, 1) := by decide +kernel
theorem dX8_next__35 : decode cX8_next_ 35 = .ok (.aload_n 0, 1) := by decide +kernel
theorem dX8_next__36 : decode cX8_next_ 36 = .ok (.getfield 258, 3) := by decide +kernel
theorem dX8_next__39 : decode cX8_next_ 39 = .ok (.invokevirtual 261, 3) := by decide +kernel
theorem dX8_next__42 : decode cX8_next_ 42 = .ok (.istore_n 1, 1) := by decide +kernel
theorem dX8_next__43 : decode cX8_next_ 43 = .ok (.aload_n 0, 1) := by decide +kernel
theorem dX8_next__44 : decode cX8_next_ 44 = .ok (.aload_n 0, 1) := by decide +kernel
theorem dX8_next__45 : decode cX8_next_ 45 = .ok (.getfield 258, 3) := by decide +kernel
theorem dX8_next__48 : decode cX8_next_ 48 = .ok (.putfield 255, 3) := by decide +kernel
theorem dX8_next__51 : decode cX8_next_ 51 = .ok (.aload_n 0, 1) := by decide +kernel
theorem dX8_next__52 : decode cX8_next_ 52 = .ok (.iconst 0, 1) := by decide +kernel
theorem dX8_next__53 : decode cX8_next_ 53 = .ok (.putfield 264, 3) := by decide +kernel
theorem dX8_next__56 : decode cX8_next_ 56 = .ok (.iload_n 1, 1) := by decide +kernel
theorem dX8_next__57 : decode cX8_next_ 57 = .ok (.ifCond .ge 11, 3) := by decide +kernel
theorem dX8_next__60 : decode cX8_next_ 60 = .ok (.aload_n 0, 1) := by decide +kernel
theorem dX8_next__61 : decode cX8_next_ 61 = .ok (.iconst 0, 1) := by decide +kernel
theorem dX8_next__62 : decode cX8_next_ 62 = .ok (.putfield 267, 3) := by decide +kernel
theorem dX8_next__65 : decode cX8_next_ 65 = .ok (.goto 141, 3) := by decide +kernel
theorem dX8_next__68 : decode cX8_next_ 68 = .ok (.iload_n 1, 1) := by decide +kernel
theorem dX8_next__69 : decode cX8_next_ 69 = .ok (.bipush 97, 2) := by decide +kernel
theorem dX8_next__71 : decode cX8_next_ 71 = .ok (.bipush 122, 2) := by decide +kernel
theorem dX8_next__73 : decode cX8_next_ 73 = .ok (.invokestatic 78, 3) := by decide +kernel
theorem dX8_next__76 : decode cX8_next_ 76 = .ok (.ifCond .eq 39, 3) := by decide +kernel
theorem dX8_next__79 : decode cX8_next_ 79 = .ok (.aload_n 0, 1) := by decide +kernel
theorem dX8_next__80 : decode cX8_next_ 80 = .ok (.iconst 1, 1) := by decide +kernel
theorem dX8_next__81 : decode cX8_next_ 81 = .ok (.putfield 267, 3) := by decide +kernel
theorem dX8_next__84 : decode cX8_next_ 84 = .ok (.aload_n 0, 1) := by decide +kernel
theorem dX8_next__85 : decode cX8_next_ 85 = .ok (.aload_n 0, 1) := by decide +kernel
theorem dX8_next__86 : decode cX8_next_ 86 = .ok (.getfield 255, 3) := by decide +kernel
theorem dX8_next__89 : decode cX8_next_ 89 = .ok (.invokevirtual 261, 3) := by decide +kernel
theorem dX8_next__92 : decode cX8_next_ 92 = .ok (.bipush 97, 2) := by decide +kernel
theorem dX8_next__94 : decode cX8_next_ 94 = .ok (.bipush 122, 2) := by decide +kernel
theorem dX8_next__96 : decode cX8_next_ 96 = .ok (.invokestatic 78, 3) := by decide +kernel
theorem dX8_next__99 : decode cX8_next_ 99 = .ok (.ifCond .eq 107, 3) := by decide +kernel
theorem dX8_next__102 : decode cX8_next_ 102 = .ok (.aload_n 0, 1) := by decide +kernel
theorem dX8_next__103 : decode cX8_next_ 103 = .ok (.dup, 1) := by decide +kernel
theorem dX8_next__104 : decode cX8_next_ 104 = .ok (.getfield 255, 3) := by decide +kernel
theorem dX8_next__107 : decode cX8_next_ 107 = .ok (.iconst 1, 1) := by decide +kernel
theorem dX8_next__108 : decode cX8_next_ 108 = .ok (.iadd, 1) := by decide +kernel
theorem dX8_next__109 : decode cX8_next_ 109 = .ok (.putfield 255, 3) := by decide +kernel
theorem dX8_next__112 : decode cX8_next_ 112 = .ok (.goto (-28), 3) := by decide +kernel
theorem dX8_next__115 : decode cX8_next_ 115 = .ok (.iload_n 1, 1) := by decide +kernel
theorem dX8_next__116 : decode cX8_next_ 116 = .ok (.bipush 48, 2) := by decide +kernel
theorem dX8_next__118 : decode cX8_next_ 118 = .ok (.bipush 57, 2) := by decide +kernel
theorem dX8_next__120 : decode cX8_next_ 120 = .ok (.invokestatic 78, 3) := by decide +kernel
theorem dX8_next__123 : decode cX8_next_ 123 = .ok (.ifCond .eq 68, 3) := by decide +kernel
theorem dX8_next__126 : decode cX8_next_ 126 = .ok (.aload_n 0, 1) := by decide +kernel
theorem dX8_next__127 : decode cX8_next_ 127 = .ok (.iconst 2, 1) := by decide +kernel
theorem dX8_next__128 : decode cX8_next_ 128 = .ok (.putfield 267, 3) := by decide +kernel
theorem dX8_next__131 : decode cX8_next_ 131 = .ok (.aload_n 0, 1) := by decide +kernel
theorem dX8_next__132 : decode cX8_next_ 132 = .ok (.aload_n 0, 1) := by decide +kernel
theorem dX8_next__133 : decode cX8_next_ 133 = .ok (.getfield 255, 3) := by decide +kernel
theorem dX8_next__136 : decode cX8_next_ 136 = .ok (.invokevirtual 261, 3) := by decide +kernel
theorem dX8_next__139 : decode cX8_next_ 139 = .ok (.bipush 48, 2) := by decide +kernel
theorem dX8_next__141 : decode cX8_next_ 141 = .ok (.bipush 57, 2) := by decide +kernel
theorem dX8_next__143 : decode cX8_next_ 143 = .ok (.invokestatic 78, 3) := by decide +kernel
theorem dX8_next__146 : decode cX8_next_ 146 = .ok (.ifCond .eq 60, 3) := by decide +kernel
theorem dX8_next__149 : decode cX8_next_ 149 = .ok (.aload_n 0, 1) := by decide +kernel
theorem dX8_next__150 : decode cX8_next_ 150 = .ok (.sipush 10000, 3) := by decide +kernel
theorem dX8_next__153 : decode cX8_next_ 153 = .ok (.bipush 10, 2) := by decide +kernel
theorem dX8_next__155 : decode cX8_next_ 155 = .ok (.aload_n 0, 1) := by decide +kernel
theorem dX8_next__156 : decode cX8_next_ 156 = .ok (.getfield 264, 3) := by decide +kernel
theorem dX8_next__159 : decode cX8_next_ 159 = .ok (.imul, 1) := by decide +kernel
theorem dX8_next__160 : decode cX8_next_ 160 = .ok (.aload_n 0, 1) := by decide +kernel
theorem dX8_next__161 : decode cX8_next_ 161 = .ok (.aload_n 0, 1) := by decide +kernel
theorem dX8_next__162 : decode cX8_next_ 162 = .ok (.getfield 255, 3) := by decide +kernel
theorem dX8_next__165 : decode cX8_next_ 165 = .ok (.invokevirtual 261, 3) := by decide +kernel
theorem dX8_next__168 : decode cX8_next_ 168 = .ok (.iadd, 1) := by decide +kernel
theorem dX8_next__169 : decode cX8_next_ 169 = .ok (.bipush 48, 2) := by decide +kernel
theorem dX8_next__171 : decode cX8_next_ 171 = .ok (.isub, 1) := by decide +kernel
theorem dX8_next__172 : decode cX8_next_ 172 = .ok (.invokestatic 86, 3) := by decide +kernel
theorem dX8_next__175 : decode cX8_next_ 175 = .ok (.putfield 264, 3) := by decide +kernel
theorem dX8_next__178 : decode cX8_next_ 178 = .ok (.aload_n 0, 1) := by decide +kernel
theorem dX8_next__179 : decode cX8_next_ 179 = .ok (.dup, 1) := by decide +kernel
theorem dX8_next__180 : decode cX8_next_ 180 = .ok (.getfield 255, 3) := by decide +kernel
theorem dX8_next__183 : decode cX8_next_ 183 = .ok (.iconst 1, 1) := by decide +kernel
theorem dX8_next__184 : decode cX8_next_ 184 = .ok (.iadd, 1) := by decide +kernel
theorem dX8_next__185 : decode cX8_next_ 185 = .ok (.putfield 255, 3) := by decide +kernel
theorem dX8_next__188 : decode cX8_next_ 188 = .ok (.goto (-57), 3) := by decide +kernel
theorem dX8_next__191 : decode cX8_next_ 191 = .ok (.aload_n 0, 1) := by decide +kernel
theorem dX8_next__192 : decode cX8_next_ 192 = .ok (.iconst 3, 1) := by decide +kernel
theorem dX8_next__193 : decode cX8_next_ 193 = .ok (.putfield 267, 3) := by decide +kernel
theorem dX8_next__196 : decode cX8_next_ 196 = .ok (.aload_n 0, 1) := by decide +kernel
theorem dX8_next__197 : decode cX8_next_ 197 = .ok (.dup, 1) := by decide +kernel
theorem dX8_next__198 : decode cX8_next_ 198 = .ok (.getfield 255, 3) := by decide +kernel
theorem dX8_next__201 : decode cX8_next_ 201 = .ok (.iconst 1, 1) := by decide +kernel
theorem dX8_next__202 : decode cX8_next_ 202 = .ok (.iadd, 1) := by decide +kernel
theorem dX8_next__203 : decode cX8_next_ 203 = .ok (.putfield 255, 3) := by decide +kernel
theorem dX8_next__206 : decode cX8_next_ 206 = .ok (.return_, 1) := by decide +kernel
theorem dX8_isWord_0 : decode cX8_isWord 0 = .ok (.aload_n 0, 1) := by decide +kernel
theorem dX8_isWord_1 : decode cX8_isWord 1 = .ok (.getfield 267, 3) := by decide +kernel
theorem dX8_isWord_4 : decode cX8_isWord 4 = .ok (.iconst 1, 1) := by decide +kernel
theorem dX8_isWord_5 : decode cX8_isWord 5 = .ok (.if_icmp .ne 23, 3) := by decide +kernel
theorem dX8_isWord_8 : decode cX8_isWord 8 = .ok (.aload_n 0, 1) := by decide +kernel
theorem dX8_isWord_9 : decode cX8_isWord 9 = .ok (.getfield 255, 3) := by decide +kernel
theorem dX8_isWord_12 : decode cX8_isWord 12 = .ok (.aload_n 0, 1) := by decide +kernel
theorem dX8_isWord_13 : decode cX8_isWord 13 = .ok (.getfield 258, 3) := by decide +kernel
theorem dX8_isWord_16 : decode cX8_isWord 16 = .ok (.isub, 1) := by decide +kernel
theorem dX8_isWord_17 : decode cX8_isWord 17 = .ok (.aload_n 1, 1) := by decide +kernel
theorem dX8_isWord_18 : decode cX8_isWord 18 = .ok (.invokevirtual 270, 3) := by decide +kernel
theorem dX8_isWord_21 : decode cX8_isWord 21 = .ok (.if_icmp .ne 7, 3) := by decide +kernel
theorem dX8_isWord_24 : decode cX8_isWord 24 = .ok (.iconst 1, 1) := by decide +kernel
theorem dX8_isWord_25 : decode cX8_isWord 25 = .ok (.goto 4, 3) := by decide +kernel
theorem dX8_isWord_28 : decode cX8_isWord 28 = .ok (.iconst 0, 1) := by decide +kernel
theorem dX8_isWord_29 : decode cX8_isWord 29 = .ok (.istore_n 2, 1) := by decide +kernel
theorem dX8_isWord_30 : decode cX8_isWord 30 = .ok (.iconst 0, 1) := by decide +kernel
theorem dX8_isWord_31 : decode cX8_isWord 31 = .ok (.istore_n 3, 1) := by decide +kernel
theorem dX8_isWord_32 : decode cX8_isWord 32 = .ok (.iload_n 3, 1) := by decide +kernel
theorem dX8_isWord_33 : decode cX8_isWord 33 = .ok (.aload_n 1, 1) := by decide +kernel
theorem dX8_isWord_34 : decode cX8_isWord 34 = .ok (.invokevirtual 270, 3) := by decide +kernel
theorem dX8_isWord_37 : decode cX8_isWord 37 = .ok (.if_icmp .ge 38, 3) := by decide +kernel
theorem dX8_isWord_40 : decode cX8_isWord 40 = .ok (.iload_n 2, 1) := by decide +kernel
theorem dX8_isWord_41 : decode cX8_isWord 41 = .ok (.ifCond .eq 34, 3) := by decide +kernel
theorem dX8_isWord_44 : decode cX8_isWord 44 = .ok (.aload_n 0, 1) := by decide +kernel
theorem dX8_isWord_45 : decode cX8_isWord 45 = .ok (.getfield 35, 3) := by decide +kernel
theorem dX8_isWord_48 : decode cX8_isWord 48 = .ok (.aload_n 0, 1) := by decide +kernel
theorem dX8_isWord_49 : decode cX8_isWord 49 = .ok (.getfield 258, 3) := by decide +kernel
theorem dX8_isWord_52 : decode cX8_isWord 52 = .ok (.iload_n 3, 1) := by decide +kernel
theorem dX8_isWord_53 : decode cX8_isWord 53 = .ok (.iadd, 1) := by decide +kernel
theorem dX8_isWord_54 : decode cX8_isWord 54 = .ok (.iaload, 1) := by decide +kernel
theorem dX8_isWord_55 : decode cX8_isWord 55 = .ok (.aload_n 1, 1) := by decide +kernel
theorem dX8_isWord_56 : decode cX8_isWord 56 = .ok (.iload_n 3, 1) := by decide +kernel
theorem dX8_isWord_57 : decode cX8_isWord 57 = .ok (.invokevirtual 273, 3) := by decide +kernel
theorem dX8_isWord_60 : decode cX8_isWord 60 = .ok (.if_icmp .ne 7, 3) := by decide +kernel
theorem dX8_isWord_63 : decode cX8_isWord 63 = .ok (.iconst 1, 1) := by decide +kernel
theorem dX8_isWord_64 : decode cX8_isWord 64 = .ok (.goto 4, 3) := by decide +kernel
theorem dX8_isWord_67 : decode cX8_isWord 67 = .ok (.iconst 0, 1) := by decide +kernel
theorem dX8_isWord_68 : decode cX8_isWord 68 = .ok (.istore_n 2, 1) := by decide +kernel
theorem dX8_isWord_69 : decode cX8_isWord 69 = .ok (.iinc 3 1, 3) := by decide +kernel
theorem dX8_isWord_72 : decode cX8_isWord 72 = .ok (.goto (-40), 3) := by decide +kernel
theorem dX8_isWord_75 : decode cX8_isWord 75 = .ok (.iload_n 2, 1) := by decide +kernel
theorem dX8_isWord_76 : decode cX8_isWord 76 = .ok (.ireturn, 1) := by decide +kernel
theorem dX8_must_0 : decode cX8_must 0 = .ok (.aload_n 0, 1) := by decide +kernel
theorem dX8_must_1 : decode cX8_must 1 = .ok (.aload_n 0, 1) := by decide +kernel
theorem dX8_must_2 : decode cX8_must 2 = .ok (.getfield 277, 3) := by decide +kernel
theorem dX8_must_5 : decode cX8_must 5 = .ok (.ifCond .ne 7, 3) := by decide +kernel
theorem dX8_must_8 : decode cX8_must 8 = .ok (.iload_n 1, 1) := by decide +kernel
theorem dX8_must_9 : decode cX8_must 9 = .ok (.ifCond .ne 7, 3) := by decide +kernel
theorem dX8_must_12 : decode cX8_must 12 = .ok (.iconst 1, 1) := by decide +kernel
theorem dX8_must_13 : decode cX8_must 13 = .ok (.goto 4, 3) := by decide +kernel
theorem dX8_must_16 : decode cX8_must 16 = .ok (.iconst 0, 1) := by decide +kernel
theorem dX8_must_17 : decode cX8_must 17 = .ok (.putfield 277, 3) := by decide +kernel
theorem dX8_must_20 : decode cX8_must 20 = .ok (.aload_n 0, 1) := by decide +kernel
theorem dX8_must_21 : decode cX8_must 21 = .ok (.getfield 277, 3) := by decide +kernel
theorem dX8_must_24 : decode cX8_must 24 = .ok (.ifCond .ne 7, 3) := by decide +kernel
theorem dX8_must_27 : decode cX8_must 27 = .ok (.aload_n 0, 1) := by decide +kernel
theorem dX8_must_28 : decode cX8_must 28 = .ok (.invokevirtual 281, 3) := by decide +kernel
theorem dX8_must_31 : decode cX8_must 31 = .ok (.return_, 1) := by decide +kernel
theorem dX8_number_0 : decode cX8_number 0 = .ok (.aload_n 0, 1) := by decide +kernel
theorem dX8_number_1 : decode cX8_number 1 = .ok (.getfield 264, 3) := by decide +kernel
theorem dX8_number_4 : decode cX8_number 4 = .ok (.istore_n 3, 1) := by decide +kernel
theorem dX8_number_5 : decode cX8_number 5 = .ok (.aload_n 0, 1) := by decide +kernel
theorem dX8_number_6 : decode cX8_number 6 = .ok (.aload_n 0, 1) := by decide +kernel
theorem dX8_number_7 : decode cX8_number 7 = .ok (.getfield 267, 3) := by decide +kernel
theorem dX8_number_10 : decode cX8_number 10 = .ok (.iconst 2, 1) := by decide +kernel
theorem dX8_number_11 : decode cX8_number 11 = .ok (.if_icmp .ne 16, 3) := by decide +kernel
theorem dX8_number_14 : decode cX8_number 14 = .ok (.iload_n 3, 1) := by decide +kernel
theorem dX8_number_15 : decode cX8_number 15 = .ok (.iload_n 1, 1) := by decide +kernel
theorem dX8_number_16 : decode cX8_number 16 = .ok (.iload_n 2, 1) := by decide +kernel
theorem dX8_number_17 : decode cX8_number 17 = .ok (.invokestatic 78, 3) := by decide +kernel
theorem dX8_number_20 : decode cX8_number 20 = .ok (.ifCond .eq 7, 3) := by decide +kernel
theorem dX8_number_23 : decode cX8_number 23 = .ok (.iconst 1, 1) := by decide +kernel
theorem dX8_number_24 : decode cX8_number 24 = .ok (.goto 4, 3) := by decide +kernel
theorem dX8_number_27 : decode cX8_number 27 = .ok (.iconst 0, 1) := by decide +kernel
theorem dX8_number_28 : decode cX8_number 28 = .ok (.invokevirtual 284, 3) := by decide +kernel
theorem dX8_number_31 : decode cX8_number 31 = .ok (.iload_n 3, 1) := by decide +kernel
theorem dX8_number_32 : decode cX8_number 32 = .ok (.ireturn, 1) := by decide +kernel
theorem dX8_row_0 : decode cX8_row 0 = .ok (.iconst 5, 1) := by decide +kernel
theorem dX8_row_1 : decode cX8_row 1 = .ok (.aload_n 0, 1) := by decide +kernel
theorem dX8_row_2 : decode cX8_row 2 = .ok (.getfield 288, 3) := by decide +kernel
theorem dX8_row_5 : decode cX8_row 5 = .ok (.imul, 1) := by decide +kernel
theorem dX8_row_6 : decode cX8_row 6 = .ok (.istore 6, 2) := by decide +kernel
theorem dX8_row_8 : decode cX8_row 8 = .ok (.aload_n 0, 1) := by decide +kernel
theorem dX8_row_9 : decode cX8_row 9 = .ok (.getfield 58, 3) := by decide +kernel
theorem dX8_row_12 : decode cX8_row 12 = .ok (.iload 6, 2) := by decide +kernel
theorem dX8_row_14 : decode cX8_row 14 = .ok (.iload_n 1, 1) := by decide +kernel
theorem dX8_row_15 : decode cX8_row 15 = .ok (.iastore, 1) := by decide +kernel
theorem dX8_row_16 : decode cX8_row 16 = .ok (.aload_n 0, 1) := by decide +kernel
theorem dX8_row_17 : decode cX8_row 17 = .ok (.getfield 58, 3) := by decide +kernel
theorem dX8_row_20 : decode cX8_row 20 = .ok (.iload 6, 2) := by decide +kernel
theorem dX8_row_22 : decode cX8_row 22 = .ok (.iconst 1, 1) := by decide +kernel
theorem dX8_row_23 : decode cX8_row 23 = .ok (.iadd, 1) := by decide +kernel
theorem dX8_row_24 : decode cX8_row 24 = .ok (.iload_n 2, 1) := by decide +kernel
theorem dX8_row_25 : decode cX8_row 25 = .ok (.iastore, 1) := by decide +kernel
theorem dX8_row_26 : decode cX8_row 26 = .ok (.aload_n 0, 1) := by decide +kernel
theorem dX8_row_27 : decode cX8_row 27 = .ok (.getfield 58, 3) := by decide +kernel
theorem dX8_row_30 : decode cX8_row 30 = .ok (.iload 6, 2) := by decide +kernel
theorem dX8_row_32 : decode cX8_row 32 = .ok (.iconst 2, 1) := by decide +kernel
theorem dX8_row_33 : decode cX8_row 33 = .ok (.iadd, 1) := by decide +kernel
theorem dX8_row_34 : decode cX8_row 34 = .ok (.iload_n 3, 1) := by decide +kernel
theorem dX8_row_35 : decode cX8_row 35 = .ok (.iastore, 1) := by decide +kernel
theorem dX8_row_36 : decode cX8_row 36 = .ok (.aload_n 0, 1) := by decide +kernel
theorem dX8_row_37 : decode cX8_row 37 = .ok (.getfield 58, 3) := by decide +kernel
theorem dX8_row_40 : decode cX8_row 40 = .ok (.iload 6, 2) := by decide +kernel
theorem dX8_row_42 : decode cX8_row 42 = .ok (.iconst 3, 1) := by decide +kernel
theorem dX8_row_43 : decode cX8_row 43 = .ok (.iadd, 1) := by decide +kernel
theorem dX8_row_44 : decode cX8_row 44 = .ok (.iload 4, 2) := by decide +kernel
theorem dX8_row_46 : decode cX8_row 46 = .ok (.iastore, 1) := by decide +kernel
theorem dX8_row_47 : decode cX8_row 47 = .ok (.aload_n 0, 1) := by decide +kernel
theorem dX8_row_48 : decode cX8_row 48 = .ok (.getfield 58, 3) := by decide +kernel
theorem dX8_row_51 : decode cX8_row 51 = .ok (.iload 6, 2) := by decide +kernel
theorem dX8_row_53 : decode cX8_row 53 = .ok (.iconst 4, 1) := by decide +kernel
theorem dX8_row_54 : decode cX8_row 54 = .ok (.iadd, 1) := by decide +kernel
theorem dX8_row_55 : decode cX8_row 55 = .ok (.iload 5, 2) := by decide +kernel
theorem dX8_row_57 : decode cX8_row 57 = .ok (.iastore, 1) := by decide +kernel
theorem dX8_row_58 : decode cX8_row 58 = .ok (.aload_n 0, 1) := by decide +kernel
theorem dX8_row_59 : decode cX8_row 59 = .ok (.dup, 1) := by decide +kernel
theorem dX8_row_60 : decode cX8_row 60 = .ok (.getfield 288, 3) := by decide +kernel
theorem dX8_row_63 : decode cX8_row 63 = .ok (.iconst 1, 1) := by decide +kernel
theorem dX8_row_64 : decode cX8_row 64 = .ok (.iadd, 1) := by decide +kernel
theorem dX8_row_65 : decode cX8_row 65 = .ok (.putfield 288, 3) := by decide +kernel
theorem dX8_row_68 : decode cX8_row 68 = .ok (.return_, 1) := by decide +kernel
theorem dX8_kindTold_0 : decode cX8_kindTold 0 = .ok (.iconst (-1), 1) := by decide +kernel
theorem dX8_kindTold_1 : decode cX8_kindTold 1 = .ok (.istore_n 1, 1) := by decide +kernel
theorem dX8_kindTold_2 : decode cX8_kindTold 2 = .ok (.iconst 0, 1) := by decide +kernel
theorem dX8_kindTold_3 : decode cX8_kindTold 3 = .ok (.istore_n 2, 1) := by decide +kernel
theorem dX8_kindTold_4 : decode cX8_kindTold 4 = .ok (.iload_n 2, 1) := by decide +kernel
theorem dX8_kindTold_5 : decode cX8_kindTold 5 = .ok (.aload_n 0, 1) := by decide +kernel
theorem dX8_kindTold_6 : decode cX8_kindTold 6 = .ok (.getfield 54, 3) := by decide +kernel
theorem dX8_kindTold_9 : decode cX8_kindTold 9 = .ok (.arraylength, 1) := by decide +kernel
theorem dX8_kindTold_10 : decode cX8_kindTold 10 = .ok (.if_icmp .ge 28, 3) := by decide +kernel
theorem dX8_kindTold_13 : decode cX8_kindTold 13 = .ok (.aload_n 0, 1) := by decide +kernel
theorem dX8_kindTold_14 : decode cX8_kindTold 14 = .ok (.aload_n 0, 1) := by decide +kernel
theorem dX8_kindTold_15 : decode cX8_kindTold 15 = .ok (.getfield 54, 3) := by decide +kernel
theorem dX8_kindTold_18 : decode cX8_kindTold 18 = .ok (.iload_n 2, 1) := by decide +kernel
theorem dX8_kindTold_19 : decode cX8_kindTold 19 = .ok (.aaload, 1) := by decide +kernel
theorem dX8_kindTold_20 : decode cX8_kindTold 20 = .ok (.invokevirtual 291, 3) := by decide +kernel
theorem dX8_kindTold_23 : decode cX8_kindTold 23 = .ok (.ifCond .eq 7, 3) := by decide +kernel
theorem dX8_kindTold_26 : decode cX8_kindTold 26 = .ok (.iload_n 2, 1) := by decide +kernel
theorem dX8_kindTold_27 : decode cX8_kindTold 27 = .ok (.goto 4, 3) := by decide +kernel
theorem dX8_kindTold_30 : decode cX8_kindTold 30 = .ok (.iload_n 1, 1) := by decide +kernel
theorem dX8_kindTold_31 : decode cX8_kindTold 31 = .ok (.istore_n 1, 1) := by decide +kernel
theorem dX8_kindTold_32 : decode cX8_kindTold 32 = .ok (.iinc 2 1, 3) := by decide +kernel
theorem dX8_kindTold_35 : decode cX8_kindTold 35 = .ok (.goto (-31), 3) := by decide +kernel
theorem dX8_kindTold_38 : decode cX8_kindTold 38 = .ok (.iload_n 1, 1) := by decide +kernel
theorem dX8_kindTold_39 : decode cX8_kindTold 39 = .ok (.ireturn, 1) := by decide +kernel
theorem dX8_isNext_0 : decode cX8_isNext 0 = .ok (.aload_n 0, 1) := by decide +kernel
theorem dX8_isNext_1 : decode cX8_isNext 1 = .ok (.getfield 277, 3) := by decide +kernel
theorem dX8_isNext_4 : decode cX8_isNext 4 = .ok (.ifCond .ne 15, 3) := by decide +kernel
theorem dX8_isNext_7 : decode cX8_isNext 7 = .ok (.aload_n 0, 1) := by decide +kernel
theorem dX8_isNext_8 : decode cX8_isNext 8 = .ok (.aload_n 1, 1) := by decide +kernel
theorem dX8_isNext_9 : decode cX8_isNext 9 = .ok (.invokevirtual 291, 3) := by decide +kernel
theorem dX8_isNext_12 : decode cX8_isNext 12 = .ok (.ifCond .eq 7, 3) := by decide +kernel
theorem dX8_isNext_15 : decode cX8_isNext 15 = .ok (.iconst 1, 1) := by decide +kernel
theorem dX8_isNext_16 : decode cX8_isNext 16 = .ok (.goto 4, 3) := by decide +kernel
theorem dX8_isNext_19 : decode cX8_isNext 19 = .ok (.iconst 0, 1) := by decide +kernel
theorem dX8_isNext_20 : decode cX8_isNext 20 = .ok (.istore_n 2, 1) := by decide +kernel
theorem dX8_isNext_21 : decode cX8_isNext 21 = .ok (.iload_n 2, 1) := by decide +kernel
theorem dX8_isNext_22 : decode cX8_isNext 22 = .ok (.ifCond .eq 8, 3) := by decide +kernel
theorem dX8_isNext_25 : decode cX8_isNext 25 = .ok (.aload_n 0, 1) := by decide +kernel
theorem dX8_isNext_26 : decode cX8_isNext 26 = .ok (.iconst 1, 1) := by decide +kernel
theorem dX8_isNext_27 : decode cX8_isNext 27 = .ok (.invokevirtual 284, 3) := by decide +kernel
theorem dX8_isNext_30 : decode cX8_isNext 30 = .ok (.iload_n 2, 1) := by decide +kernel
theorem dX8_isNext_31 : decode cX8_isNext 31 = .ok (.ireturn, 1) := by decide +kernel
theorem dX8_readItem_0 : decode cX8_readItem 0 = .ok (.aload_n 0, 1) := by decide +kernel
theorem dX8_readItem_1 : decode cX8_readItem 1 = .ok (.invokevirtual 295, 3) := by decide +kernel
theorem dX8_readItem_4 : decode cX8_readItem 4 = .ok (.istore_n 1, 1) := by decide +kernel
theorem dX8_readItem_5 : decode cX8_readItem 5 = .ok (.aload_n 0, 1) := by decide +kernel
theorem dX8_readItem_6 : decode cX8_readItem 6 = .ok (.dup, 1) := by decide +kernel
theorem dX8_readItem_7 : decode cX8_readItem 7 = .ok (.getfield 298, 3) := by decide +kernel
theorem dX8_readItem_10 : decode cX8_readItem 10 = .ok (.iconst 1, 1) := by decide +kernel
theorem dX8_readItem_11 : decode cX8_readItem 11 = .ok (.iadd, 1) := by decide +kernel
theorem dX8_readItem_12 : decode cX8_readItem 12 = .ok (.putfield 298, 3) := by decide +kernel
theorem dX8_readItem_15 : decode cX8_readItem 15 = .ok (.iload_n 1, 1) := by decide +kernel
theorem dX8_readItem_16 : decode cX8_readItem 16 = .ok (.ifCond .lt 130, 3) := by decide +kernel
theorem dX8_readItem_19 : decode cX8_readItem 19 = .ok (.aload_n 0, 1) := by decide +kernel
theorem dX8_readItem_20 : decode cX8_readItem 20 = .ok (.aload_n 0, 1) := by decide +kernel
theorem dX8_readItem_21 : decode cX8_readItem 21 = .ok (.getfield 301, 3) := by decide +kernel
theorem dX8_readItem_24 : decode cX8_readItem 24 = .ok (.bipush 14, 2) := by decide +kernel
theorem dX8_readItem_26 : decode cX8_readItem 26 = .ok (.if_icmp .ge 7, 3) := by decide +kernel
theorem dX8_readItem_29 : decode cX8_readItem 29 = .ok (.iconst 1, 1) := by decide +kernel
theorem dX8_readItem_30 : decode cX8_readItem 30 = .ok (.goto 4, 3) := by decide +kernel
theorem dX8_readItem_33 : decode cX8_readItem 33 = .ok (.iconst 0, 1) := by decide +kernel
theorem dX8_readItem_34 : decode cX8_readItem 34 = .ok (.invokevirtual 284, 3) := by decide +kernel
theorem dX8_readItem_37 : decode cX8_readItem 37 = .ok (.aload_n 0, 1) := by decide +kernel
theorem dX8_readItem_38 : decode cX8_readItem 38 = .ok (.dup, 1) := by decide +kernel
theorem dX8_readItem_39 : decode cX8_readItem 39 = .ok (.getfield 301, 3) := by decide +kernel
theorem dX8_readItem_42 : decode cX8_readItem 42 = .ok (.iconst 1, 1) := by decide +kernel
theorem dX8_readItem_43 : decode cX8_readItem 43 = .ok (.iadd, 1) := by decide +kernel
theorem dX8_readItem_44 : decode cX8_readItem 44 = .ok (.putfield 301, 3) := by decide +kernel
theorem dX8_readItem_47 : decode cX8_readItem 47 = .ok (.aload_n 0, 1) := by decide +kernel
theorem dX8_readItem_48 : decode cX8_readItem 48 = .ok (.iconst 0, 1) := by decide +kernel
theorem dX8_readItem_49 : decode cX8_readItem 49 = .ok (.bipush 7, 2) := by decide +kernel
theorem dX8_readItem_51 : decode cX8_readItem 51 = .ok (.invokevirtual 304, 3) := by decide +kernel
theorem dX8_readItem_54 : decode cX8_readItem 54 = .ok (.istore_n 2, 1) := by decide +kernel
theorem dX8_readItem_55 : decode cX8_readItem 55 = .ok (.aload_n 0, 1) := by decide +kernel
theorem dX8_readItem_56 : decode cX8_readItem 56 = .ok (.getfield 264, 3) := by decide +kernel
theorem dX8_readItem_59 : decode cX8_readItem 59 = .ok (.istore_n 3, 1) := by decide +kernel
theorem dX8_readItem_60 : decode cX8_readItem 60 = .ok (.aload_n 0, 1) := by decide +kernel
theorem dX8_readItem_61 : decode cX8_readItem 61 = .ok (.aload_n 0, 1) := by decide +kernel
theorem dX8_readItem_62 : decode cX8_readItem 62 = .ok (.getfield 277, 3) := by decide +kernel
theorem dX8_readItem_65 : decode cX8_readItem 65 = .ok (.ifCond .ne 27, 3) := by decide +kernel
theorem dX8_readItem_68 : decode cX8_readItem 68 = .ok (.aload_n 0, 1) := by decide +kernel
theorem dX8_readItem_69 : decode cX8_readItem 69 = .ok (.getfield 267, 3) := by decide +kernel
theorem dX8_readItem_72 : decode cX8_readItem 72 = .ok (.iconst 2, 1) := by decide +kernel
theorem dX8_readItem_73 : decode cX8_readItem 73 = .ok (.if_icmp .ne 19, 3) := by decide +kernel
theorem dX8_readItem_76 : decode cX8_readItem 76 = .ok (.iload_n 3, 1) := by decide +kernel
theorem dX8_readItem_77 : decode cX8_readItem 77 = .ok (.invokestatic 98, 3) := by decide +kernel
theorem dX8_readItem_80 : decode cX8_readItem 80 = .ok (.ifCond .eq 12, 3) := by decide +kernel
theorem dX8_readItem_83 : decode cX8_readItem 83 = .ok (.iload_n 3, 1) := by decide +kernel
theorem dX8_readItem_84 : decode cX8_readItem 84 = .ok (.iload_n 2, 1) := by decide +kernel
theorem dX8_readItem_85 : decode cX8_readItem 85 = .ok (.if_icmp .eq 7, 3) := by decide +kernel
theorem dX8_readItem_88 : decode cX8_readItem 88 = .ok (.iconst 1, 1) := by decide +kernel
theorem dX8_readItem_89 : decode cX8_readItem 89 = .ok (.goto 4, 3) := by decide +kernel
theorem dX8_readItem_92 : decode cX8_readItem 92 = .ok (.iconst 0, 1) := by decide +kernel
theorem dX8_readItem_93 : decode cX8_readItem 93 = .ok (.invokevirtual 284, 3) := by decide +kernel
theorem dX8_readItem_96 : decode cX8_readItem 96 = .ok (.aload_n 0, 1) := by decide +kernel
theorem dX8_readItem_97 : decode cX8_readItem 97 = .ok (.ldc_w 307, 3) := by decide +kernel
theorem dX8_readItem_100 : decode cX8_readItem 100 = .ok (.invokevirtual 309, 3) := by decide +kernel
theorem dX8_readItem_103 : decode cX8_readItem 103 = .ok (.ifCond .eq 13, 3) := by decide +kernel
theorem dX8_readItem_106 : decode cX8_readItem 106 = .ok (.aload_n 0, 1) := by decide +kernel
theorem dX8_readItem_107 : decode cX8_readItem 107 = .ok (.iconst 1, 1) := by decide +kernel
theorem dX8_readItem_108 : decode cX8_readItem 108 = .ok (.bipush 20, 2) := by decide +kernel
theorem dX8_readItem_110 : decode cX8_readItem 110 = .ok (.invokevirtual 304, 3) := by decide +kernel
theorem dX8_readItem_113 : decode cX8_readItem 113 = .ok (.goto 4, 3) := by decide +kernel
theorem dX8_readItem_116 : decode cX8_readItem 116 = .ok (.iconst 5, 1) := by decide +kernel
theorem dX8_readItem_117 : decode cX8_readItem 117 = .ok (.istore 4, 2) := by decide +kernel
theorem dX8_readItem_119 : decode cX8_readItem 119 = .ok (.aload_n 0, 1) := by decide +kernel
theorem dX8_readItem_120 : decode cX8_readItem 120 = .ok (.iload_n 1, 1) := by decide +kernel
theorem dX8_readItem_121 : decode cX8_readItem 121 = .ok (.iload_n 2, 1) := by decide +kernel
theorem dX8_readItem_122 : decode cX8_readItem 122 = .ok (.iload_n 3, 1) := by decide +kernel
theorem dX8_readItem_123 : decode cX8_readItem 123 = .ok (.iload 4, 2) := by decide +kernel
theorem dX8_readItem_125 : decode cX8_readItem 125 = .ok (.aload_n 0, 1) := by decide +kernel
theorem dX8_readItem_126 : decode cX8_readItem 126 = .ok (.ldc_w 312, 3) := by decide +kernel
theorem dX8_readItem_129 : decode cX8_readItem 129 = .ok (.invokevirtual 309, 3) := by decide +kernel
theorem dX8_readItem_132 : decode cX8_readItem 132 = .ok (.ifCond .eq 7, 3) := by decide +kernel
theorem dX8_readItem_135 : decode cX8_readItem 135 = .ok (.iconst 1, 1) := by decide +kernel
theorem dX8_readItem_136 : decode cX8_readItem 136 = .ok (.goto 4, 3) := by decide +kernel
theorem dX8_readItem_139 : decode cX8_readItem 139 = .ok (.iconst 0, 1) := by decide +kernel
theorem dX8_readItem_140 : decode cX8_readItem 140 = .ok (.invokevirtual 314, 3) := by decide +kernel
theorem dX8_readItem_143 : decode cX8_readItem 143 = .ok (.goto 161, 3) := by decide +kernel
theorem dX8_readItem_146 : decode cX8_readItem 146 = .ok (.aload_n 0, 1) := by decide +kernel
theorem dX8_readItem_147 : decode cX8_readItem 147 = .ok (.ldc_w 318, 3) := by decide +kernel
theorem dX8_readItem_150 : decode cX8_readItem 150 = .ok (.invokevirtual 309, 3) := by decide +kernel
theorem dX8_readItem_153 : decode cX8_readItem 153 = .ok (.ifCond .eq 66, 3) := by decide +kernel
theorem dX8_readItem_156 : decode cX8_readItem 156 = .ok (.aload_n 0, 1) := by decide +kernel
theorem dX8_readItem_157 : decode cX8_readItem 157 = .ok (.iconst 0, 1) := by decide +kernel
theorem dX8_readItem_158 : decode cX8_readItem 158 = .ok (.bipush 11, 2) := by decide +kernel
theorem dX8_readItem_160 : decode cX8_readItem 160 = .ok (.invokevirtual 304, 3) := by decide +kernel
theorem dX8_readItem_163 : decode cX8_readItem 163 = .ok (.istore_n 2, 1) := by decide +kernel
theorem dX8_readItem_164 : decode cX8_readItem 164 = .ok (.aload_n 0, 1) := by decide +kernel
theorem dX8_readItem_165 : decode cX8_readItem 165 = .ok (.ldc_w 320, 3) := by decide +kernel
theorem dX8_readItem_168 : decode cX8_readItem 168 = .ok (.invokevirtual 309, 3) := by decide +kernel
theorem dX8_readItem_171 : decode cX8_readItem 171 = .ok (.ifCond .eq 19, 3) := by decide +kernel
theorem dX8_readItem_174 : decode cX8_readItem 174 = .ok (.aload_n 0, 1) := by decide +kernel
theorem dX8_readItem_175 : decode cX8_readItem 175 = .ok (.bipush 10, 2) := by decide +kernel
theorem dX8_readItem_177 : decode cX8_readItem 177 = .ok (.iload_n 2, 1) := by decide +kernel
theorem dX8_readItem_178 : decode cX8_readItem 178 = .ok (.aload_n 0, 1) := by decide +kernel
theorem dX8_readItem_179 : decode cX8_readItem 179 = .ok (.iconst 0, 1) := by decide +kernel
theorem dX8_readItem_180 : decode cX8_readItem 180 = .ok (.bipush 9, 2) := by decide +kernel
theorem dX8_readItem_182 : decode cX8_readItem 182 = .ok (.invokevirtual 304, 3) := by decide +kernel
theorem dX8_readItem_185 : decode cX8_readItem 185 = .ok (.iconst 0, 1) := by decide +kernel
theorem dX8_readItem_186 : decode cX8_readItem 186 = .ok (.iconst 0, 1) := by decide +kernel
theorem dX8_readItem_187 : decode cX8_readItem 187 = .ok (.invokevirtual 314, 3) := by decide +kernel
theorem dX8_readItem_190 : decode cX8_readItem 190 = .ok (.aload_n 0, 1) := by decide +kernel
theorem dX8_readItem_191 : decode cX8_readItem 191 = .ok (.ldc_w 322, 3) := by decide +kernel
theorem dX8_readItem_194 : decode cX8_readItem 194 = .ok (.invokevirtual 309, 3) := by decide +kernel
theorem dX8_readItem_197 : decode cX8_readItem 197 = .ok (.ifCond .eq 19, 3) := by decide +kernel
theorem dX8_readItem_200 : decode cX8_readItem 200 = .ok (.aload_n 0, 1) := by decide +kernel
theorem dX8_readItem_201 : decode cX8_readItem 201 = .ok (.bipush 11, 2) := by decide +kernel
theorem dX8_readItem_203 : decode cX8_readItem 203 = .ok (.iload_n 2, 1) := by decide +kernel
theorem dX8_readItem_204 : decode cX8_readItem 204 = .ok (.aload_n 0, 1) := by decide +kernel
theorem dX8_readItem_205 : decode cX8_readItem 205 = .ok (.iconst 0, 1) := by decide +kernel
theorem dX8_readItem_206 : decode cX8_readItem 206 = .ok (.bipush 9, 2) := by decide +kernel
theorem dX8_readItem_208 : decode cX8_readItem 208 = .ok (.invokevirtual 304, 3) := by decide +kernel
theorem dX8_readItem_211 : decode cX8_readItem 211 = .ok (.iconst 0, 1) := by decide +kernel
theorem dX8_readItem_212 : decode cX8_readItem 212 = .ok (.iconst 0, 1) := by decide +kernel
theorem dX8_readItem_213 : decode cX8_readItem 213 = .ok (.invokevirtual 314, 3) := by decide +kernel
theorem dX8_readItem_216 : decode cX8_readItem 216 = .ok (.goto 88, 3) := by decide +kernel
theorem dX8_readItem_219 : decode cX8_readItem 219 = .ok (.aload_n 0, 1) := by decide +kernel
theorem dX8_readItem_220 : decode cX8_readItem 220 = .ok (.ldc_w 324, 3) := by decide +kernel
theorem dX8_readItem_223 : decode cX8_readItem 223 = .ok (.invokevirtual 309, 3) := by decide +kernel
theorem dX8_readItem_226 : decode cX8_readItem 226 = .ok (.ifCond .eq 29, 3) := by decide +kernel
theorem dX8_readItem_229 : decode cX8_readItem 229 = .ok (.aload_n 0, 1) := by decide +kernel
theorem dX8_readItem_230 : decode cX8_readItem 230 = .ok (.iconst 0, 1) := by decide +kernel
theorem dX8_readItem_231 : decode cX8_readItem 231 = .ok (.bipush 7, 2) := by decide +kernel
theorem dX8_readItem_233 : decode cX8_readItem 233 = .ok (.invokevirtual 304, 3) := by decide +kernel
theorem dX8_readItem_236 : decode cX8_readItem 236 = .ok (.istore_n 2, 1) := by decide +kernel
theorem dX8_readItem_237 : decode cX8_readItem 237 = .ok (.aload_n 0, 1) := by decide +kernel
theorem dX8_readItem_238 : decode cX8_readItem 238 = .ok (.bipush 12, 2) := by decide +kernel
theorem dX8_readItem_240 : decode cX8_readItem 240 = .ok (.iload_n 2, 1) := by decide +kernel
theorem dX8_readItem_241 : decode cX8_readItem 241 = .ok (.aload_n 0, 1) := by decide +kernel
theorem dX8_readItem_242 : decode cX8_readItem 242 = .ok (.iconst 0, 1) := by decide +kernel
theorem dX8_readItem_243 : decode cX8_readItem 243 = .ok (.iconst 3, 1) := by decide +kernel
theorem dX8_readItem_244 : decode cX8_readItem 244 = .ok (.invokevirtual 304, 3) := by decide +kernel
theorem dX8_readItem_247 : decode cX8_readItem 247 = .ok (.iconst 0, 1) := by decide +kernel
theorem dX8_readItem_248 : decode cX8_readItem 248 = .ok (.iconst 0, 1) := by decide +kernel
theorem dX8_readItem_249 : decode cX8_readItem 249 = .ok (.invokevirtual 314, 3) := by decide +kernel
end
section
theorem dX8_readItem_252 : decode cX8_readItem 252 = .ok (.goto 52, 3) := by decide +kernel
theorem dX8_readItem_255 : decode cX8_readItem 255 = .ok (.aload_n 0, 1) := by decide +kernel
theorem dX8_readItem_256 : decode cX8_readItem 256 = .ok (.ldc_w 326, 3) := by decide +kernel
theorem dX8_readItem_259 : decode cX8_readItem 259 = .ok (.invokevirtual 291, 3) := by decide +kernel
theorem dX8_readItem_262 : decode cX8_readItem 262 = .ok (.istore_n 2, 1) := by decide +kernel
theorem dX8_readItem_263 : decode cX8_readItem 263 = .ok (.aload_n 0, 1) := by decide +kernel
theorem dX8_readItem_264 : decode cX8_readItem 264 = .ok (.iload_n 2, 1) := by decide +kernel
theorem dX8_readItem_265 : decode cX8_readItem 265 = .ok (.ifCond .ne 13, 3) := by decide +kernel
theorem dX8_readItem_268 : decode cX8_readItem 268 = .ok (.aload_n 0, 1) := by decide +kernel
theorem dX8_readItem_269 : decode cX8_readItem 269 = .ok (.ldc_w 328, 3) := by decide +kernel
theorem dX8_readItem_272 : decode cX8_readItem 272 = .ok (.invokevirtual 291, 3) := by decide +kernel
theorem dX8_readItem_275 : decode cX8_readItem 275 = .ok (.ifCond .eq 7, 3) := by decide +kernel
theorem dX8_readItem_278 : decode cX8_readItem 278 = .ok (.iconst 1, 1) := by decide +kernel
theorem dX8_readItem_279 : decode cX8_readItem 279 = .ok (.goto 4, 3) := by decide +kernel
theorem dX8_readItem_282 : decode cX8_readItem 282 = .ok (.iconst 0, 1) := by decide +kernel
theorem dX8_readItem_283 : decode cX8_readItem 283 = .ok (.invokevirtual 284, 3) := by decide +kernel
theorem dX8_readItem_286 : decode cX8_readItem 286 = .ok (.aload_n 0, 1) := by decide +kernel
theorem dX8_readItem_287 : decode cX8_readItem 287 = .ok (.bipush 13, 2) := by decide +kernel
theorem dX8_readItem_289 : decode cX8_readItem 289 = .ok (.iload_n 2, 1) := by decide +kernel
theorem dX8_readItem_290 : decode cX8_readItem 290 = .ok (.ifCond .eq 7, 3) := by decide +kernel
theorem dX8_readItem_293 : decode cX8_readItem 293 = .ok (.iconst 1, 1) := by decide +kernel
theorem dX8_readItem_294 : decode cX8_readItem 294 = .ok (.goto 4, 3) := by decide +kernel
theorem dX8_readItem_297 : decode cX8_readItem 297 = .ok (.iconst 0, 1) := by decide +kernel
theorem dX8_readItem_298 : decode cX8_readItem 298 = .ok (.iconst 0, 1) := by decide +kernel
theorem dX8_readItem_299 : decode cX8_readItem 299 = .ok (.iconst 0, 1) := by decide +kernel
theorem dX8_readItem_300 : decode cX8_readItem 300 = .ok (.iconst 0, 1) := by decide +kernel
theorem dX8_readItem_301 : decode cX8_readItem 301 = .ok (.invokevirtual 314, 3) := by decide +kernel
theorem dX8_readItem_304 : decode cX8_readItem 304 = .ok (.return_, 1) := by decide +kernel
theorem dX8_isSo_0 : decode cX8_isSo 0 = .ok (.aload_n 0, 1) := by decide +kernel
theorem dX8_isSo_1 : decode cX8_isSo 1 = .ok (.getfield 58, 3) := by decide +kernel
theorem dX8_isSo_4 : decode cX8_isSo 4 = .ok (.iload_n 1, 1) := by decide +kernel
theorem dX8_isSo_5 : decode cX8_isSo 5 = .ok (.iconst 1, 1) := by decide +kernel
theorem dX8_isSo_6 : decode cX8_isSo 6 = .ok (.iadd, 1) := by decide +kernel
theorem dX8_isSo_7 : decode cX8_isSo 7 = .ok (.iaload, 1) := by decide +kernel
theorem dX8_isSo_8 : decode cX8_isSo 8 = .ok (.istore_n 2, 1) := by decide +kernel
theorem dX8_isSo_9 : decode cX8_isSo 9 = .ok (.aload_n 0, 1) := by decide +kernel
theorem dX8_isSo_10 : decode cX8_isSo 10 = .ok (.getfield 58, 3) := by decide +kernel
theorem dX8_isSo_13 : decode cX8_isSo 13 = .ok (.iload_n 1, 1) := by decide +kernel
theorem dX8_isSo_14 : decode cX8_isSo 14 = .ok (.iconst 2, 1) := by decide +kernel
theorem dX8_isSo_15 : decode cX8_isSo 15 = .ok (.iadd, 1) := by decide +kernel
theorem dX8_isSo_16 : decode cX8_isSo 16 = .ok (.iaload, 1) := by decide +kernel
theorem dX8_isSo_17 : decode cX8_isSo 17 = .ok (.istore_n 3, 1) := by decide +kernel
theorem dX8_isSo_18 : decode cX8_isSo 18 = .ok (.aload_n 0, 1) := by decide +kernel
theorem dX8_isSo_19 : decode cX8_isSo 19 = .ok (.getfield 58, 3) := by decide +kernel
theorem dX8_isSo_22 : decode cX8_isSo 22 = .ok (.iload_n 1, 1) := by decide +kernel
theorem dX8_isSo_23 : decode cX8_isSo 23 = .ok (.iaload, 1) := by decide +kernel
theorem dX8_isSo_24 : decode cX8_isSo 24 = .ok (.tableswitch 69 10 13 #[32, 42, 52, 61], 32) := by decide +kernel
theorem dX8_isSo_56 : decode cX8_isSo 56 = .ok (.aload_n 0, 1) := by decide +kernel
theorem dX8_isSo_57 : decode cX8_isSo 57 = .ok (.bipush 20, 2) := by decide +kernel
theorem dX8_isSo_59 : decode cX8_isSo 59 = .ok (.iload_n 2, 1) := by decide +kernel
theorem dX8_isSo_60 : decode cX8_isSo 60 = .ok (.iadd, 1) := by decide +kernel
theorem dX8_isSo_61 : decode cX8_isSo 61 = .ok (.iload_n 3, 1) := by decide +kernel
theorem dX8_isSo_62 : decode cX8_isSo 62 = .ok (.invokevirtual 129, 3) := by decide +kernel
theorem dX8_isSo_65 : decode cX8_isSo 65 = .ok (.ireturn, 1) := by decide +kernel
theorem dX8_isSo_66 : decode cX8_isSo 66 = .ok (.aload_n 0, 1) := by decide +kernel
theorem dX8_isSo_67 : decode cX8_isSo 67 = .ok (.bipush 32, 2) := by decide +kernel
theorem dX8_isSo_69 : decode cX8_isSo 69 = .ok (.iload_n 2, 1) := by decide +kernel
theorem dX8_isSo_70 : decode cX8_isSo 70 = .ok (.iadd, 1) := by decide +kernel
theorem dX8_isSo_71 : decode cX8_isSo 71 = .ok (.iload_n 3, 1) := by decide +kernel
theorem dX8_isSo_72 : decode cX8_isSo 72 = .ok (.invokevirtual 129, 3) := by decide +kernel
theorem dX8_isSo_75 : decode cX8_isSo 75 = .ok (.ireturn, 1) := by decide +kernel
theorem dX8_isSo_76 : decode cX8_isSo 76 = .ok (.aload_n 0, 1) := by decide +kernel
theorem dX8_isSo_77 : decode cX8_isSo 77 = .ok (.iconst 0, 1) := by decide +kernel
theorem dX8_isSo_78 : decode cX8_isSo 78 = .ok (.iload_n 2, 1) := by decide +kernel
theorem dX8_isSo_79 : decode cX8_isSo 79 = .ok (.iadd, 1) := by decide +kernel
theorem dX8_isSo_80 : decode cX8_isSo 80 = .ok (.iload_n 3, 1) := by decide +kernel
theorem dX8_isSo_81 : decode cX8_isSo 81 = .ok (.invokevirtual 129, 3) := by decide +kernel
theorem dX8_isSo_84 : decode cX8_isSo 84 = .ok (.ireturn, 1) := by decide +kernel
theorem dX8_isSo_85 : decode cX8_isSo 85 = .ok (.aload_n 0, 1) := by decide +kernel
theorem dX8_isSo_86 : decode cX8_isSo 86 = .ok (.bipush 44, 2) := by decide +kernel
theorem dX8_isSo_88 : decode cX8_isSo 88 = .ok (.iload_n 2, 1) := by decide +kernel
theorem dX8_isSo_89 : decode cX8_isSo 89 = .ok (.invokevirtual 129, 3) := by decide +kernel
theorem dX8_isSo_92 : decode cX8_isSo 92 = .ok (.ireturn, 1) := by decide +kernel
theorem dX8_isSo_93 : decode cX8_isSo 93 = .ok (.aload_n 0, 1) := by decide +kernel
theorem dX8_isSo_94 : decode cX8_isSo 94 = .ok (.aload_n 0, 1) := by decide +kernel
theorem dX8_isSo_95 : decode cX8_isSo 95 = .ok (.getfield 58, 3) := by decide +kernel
theorem dX8_isSo_98 : decode cX8_isSo 98 = .ok (.iload_n 1, 1) := by decide +kernel
theorem dX8_isSo_99 : decode cX8_isSo 99 = .ok (.iaload, 1) := by decide +kernel
theorem dX8_isSo_100 : decode cX8_isSo 100 = .ok (.iload_n 2, 1) := by decide +kernel
theorem dX8_isSo_101 : decode cX8_isSo 101 = .ok (.iload_n 3, 1) := by decide +kernel
theorem dX8_isSo_102 : decode cX8_isSo 102 = .ok (.aload_n 0, 1) := by decide +kernel
theorem dX8_isSo_103 : decode cX8_isSo 103 = .ok (.getfield 58, 3) := by decide +kernel
theorem dX8_isSo_106 : decode cX8_isSo 106 = .ok (.iload_n 1, 1) := by decide +kernel
theorem dX8_isSo_107 : decode cX8_isSo 107 = .ok (.iconst 3, 1) := by decide +kernel
theorem dX8_isSo_108 : decode cX8_isSo 108 = .ok (.iadd, 1) := by decide +kernel
theorem dX8_isSo_109 : decode cX8_isSo 109 = .ok (.iaload, 1) := by decide +kernel
theorem dX8_isSo_110 : decode cX8_isSo 110 = .ok (.aload_n 0, 1) := by decide +kernel
theorem dX8_isSo_111 : decode cX8_isSo 111 = .ok (.getfield 58, 3) := by decide +kernel
theorem dX8_isSo_114 : decode cX8_isSo 114 = .ok (.iload_n 1, 1) := by decide +kernel
theorem dX8_isSo_115 : decode cX8_isSo 115 = .ok (.iconst 4, 1) := by decide +kernel
theorem dX8_isSo_116 : decode cX8_isSo 116 = .ok (.iadd, 1) := by decide +kernel
theorem dX8_isSo_117 : decode cX8_isSo 117 = .ok (.iaload, 1) := by decide +kernel
theorem dX8_isSo_118 : decode cX8_isSo 118 = .ok (.invokevirtual 106, 3) := by decide +kernel
theorem dX8_isSo_121 : decode cX8_isSo 121 = .ok (.ireturn, 1) := by decide +kernel
theorem dX8_text_0 : decode cX8_text 0 = .ok (.aload_n 0, 1) := by decide +kernel
theorem dX8_text_1 : decode cX8_text 1 = .ok (.iconst 0, 1) := by decide +kernel
theorem dX8_text_2 : decode cX8_text 2 = .ok (.putfield 255, 3) := by decide +kernel
theorem dX8_text_5 : decode cX8_text 5 = .ok (.aload_n 0, 1) := by decide +kernel
theorem dX8_text_6 : decode cX8_text 6 = .ok (.iconst 0, 1) := by decide +kernel
theorem dX8_text_7 : decode cX8_text 7 = .ok (.putfield 277, 3) := by decide +kernel
theorem dX8_text_10 : decode cX8_text 10 = .ok (.aload_n 0, 1) := by decide +kernel
theorem dX8_text_11 : decode cX8_text 11 = .ok (.iconst 0, 1) := by decide +kernel
theorem dX8_text_12 : decode cX8_text 12 = .ok (.putfield 288, 3) := by decide +kernel
theorem dX8_text_15 : decode cX8_text 15 = .ok (.aload_n 0, 1) := by decide +kernel
theorem dX8_text_16 : decode cX8_text 16 = .ok (.iconst 0, 1) := by decide +kernel
theorem dX8_text_17 : decode cX8_text 17 = .ok (.putfield 298, 3) := by decide +kernel
theorem dX8_text_20 : decode cX8_text 20 = .ok (.aload_n 0, 1) := by decide +kernel
theorem dX8_text_21 : decode cX8_text 21 = .ok (.aload_n 0, 1) := by decide +kernel
theorem dX8_text_22 : decode cX8_text 22 = .ok (.getfield 9, 3) := by decide +kernel
theorem dX8_text_25 : decode cX8_text 25 = .ok (.bipush 8, 2) := by decide +kernel
theorem dX8_text_27 : decode cX8_text 27 = .ok (.iaload, 1) := by decide +kernel
theorem dX8_text_28 : decode cX8_text 28 = .ok (.putfield 301, 3) := by decide +kernel
theorem dX8_text_31 : decode cX8_text 31 = .ok (.aload_n 0, 1) := by decide +kernel
theorem dX8_text_32 : decode cX8_text 32 = .ok (.invokevirtual 281, 3) := by decide +kernel
theorem dX8_text_35 : decode cX8_text 35 = .ok (.aload_n 0, 1) := by decide +kernel
theorem dX8_text_36 : decode cX8_text 36 = .ok (.invokevirtual 330, 3) := by decide +kernel
theorem dX8_text_39 : decode cX8_text 39 = .ok (.aload_n 0, 1) := by decide +kernel
theorem dX8_text_40 : decode cX8_text 40 = .ok (.getfield 277, 3) := by decide +kernel
theorem dX8_text_43 : decode cX8_text 43 = .ok (.ifCond .ne 37, 3) := by decide +kernel
theorem dX8_text_46 : decode cX8_text 46 = .ok (.aload_n 0, 1) := by decide +kernel
theorem dX8_text_47 : decode cX8_text 47 = .ok (.getfield 267, 3) := by decide +kernel
theorem dX8_text_50 : decode cX8_text 50 = .ok (.iconst 3, 1) := by decide +kernel
theorem dX8_text_51 : decode cX8_text 51 = .ok (.if_icmp .ne 29, 3) := by decide +kernel
theorem dX8_text_54 : decode cX8_text 54 = .ok (.aload_n 0, 1) := by decide +kernel
theorem dX8_text_55 : decode cX8_text 55 = .ok (.getfield 35, 3) := by decide +kernel
theorem dX8_text_58 : decode cX8_text 58 = .ok (.aload_n 0, 1) := by decide +kernel
theorem dX8_text_59 : decode cX8_text 59 = .ok (.getfield 258, 3) := by decide +kernel
theorem dX8_text_62 : decode cX8_text 62 = .ok (.iaload, 1) := by decide +kernel
theorem dX8_text_63 : decode cX8_text 63 = .ok (.bipush 59, 2) := by decide +kernel
theorem dX8_text_65 : decode cX8_text 65 = .ok (.if_icmp .ne 15, 3) := by decide +kernel
theorem dX8_text_68 : decode cX8_text 68 = .ok (.aload_n 0, 1) := by decide +kernel
theorem dX8_text_69 : decode cX8_text 69 = .ok (.iconst 1, 1) := by decide +kernel
theorem dX8_text_70 : decode cX8_text 70 = .ok (.invokevirtual 284, 3) := by decide +kernel
theorem dX8_text_73 : decode cX8_text 73 = .ok (.aload_n 0, 1) := by decide +kernel
theorem dX8_text_74 : decode cX8_text 74 = .ok (.invokevirtual 330, 3) := by decide +kernel
theorem dX8_text_77 : decode cX8_text 77 = .ok (.goto (-38), 3) := by decide +kernel
theorem dX8_text_80 : decode cX8_text 80 = .ok (.aload_n 0, 1) := by decide +kernel
theorem dX8_text_81 : decode cX8_text 81 = .ok (.aload_n 0, 1) := by decide +kernel
theorem dX8_text_82 : decode cX8_text 82 = .ok (.getfield 267, 3) := by decide +kernel
theorem dX8_text_85 : decode cX8_text 85 = .ok (.ifCond .ne 7, 3) := by decide +kernel
theorem dX8_text_88 : decode cX8_text 88 = .ok (.iconst 1, 1) := by decide +kernel
theorem dX8_text_89 : decode cX8_text 89 = .ok (.goto 4, 3) := by decide +kernel
theorem dX8_text_92 : decode cX8_text 92 = .ok (.iconst 0, 1) := by decide +kernel
theorem dX8_text_93 : decode cX8_text 93 = .ok (.invokevirtual 284, 3) := by decide +kernel
theorem dX8_text_96 : decode cX8_text 96 = .ok (.aload_n 0, 1) := by decide +kernel
theorem dX8_text_97 : decode cX8_text 97 = .ok (.iconst 0, 1) := by decide +kernel
theorem dX8_text_98 : decode cX8_text 98 = .ok (.putfield 252, 3) := by decide +kernel
theorem dX8_text_101 : decode cX8_text 101 = .ok (.aload_n 0, 1) := by decide +kernel
theorem dX8_text_102 : decode cX8_text 102 = .ok (.getfield 277, 3) := by decide +kernel
theorem dX8_text_105 : decode cX8_text 105 = .ok (.ifCond .eq 10, 3) := by decide +kernel
theorem dX8_text_108 : decode cX8_text 108 = .ok (.iconst (-1), 1) := by decide +kernel
theorem dX8_text_109 : decode cX8_text 109 = .ok (.aload_n 0, 1) := by decide +kernel
theorem dX8_text_110 : decode cX8_text 110 = .ok (.getfield 258, 3) := by decide +kernel
theorem dX8_text_113 : decode cX8_text 113 = .ok (.isub, 1) := by decide +kernel
theorem dX8_text_114 : decode cX8_text 114 = .ok (.ireturn, 1) := by decide +kernel
theorem dX8_text_115 : decode cX8_text 115 = .ok (.iconst 0, 1) := by decide +kernel
theorem dX8_text_116 : decode cX8_text 116 = .ok (.istore_n 1, 1) := by decide +kernel
theorem dX8_text_117 : decode cX8_text 117 = .ok (.iconst 0, 1) := by decide +kernel
theorem dX8_text_118 : decode cX8_text 118 = .ok (.istore_n 2, 1) := by decide +kernel
theorem dX8_text_119 : decode cX8_text 119 = .ok (.iload_n 2, 1) := by decide +kernel
theorem dX8_text_120 : decode cX8_text 120 = .ok (.aload_n 0, 1) := by decide +kernel
theorem dX8_text_121 : decode cX8_text 121 = .ok (.getfield 288, 3) := by decide +kernel
theorem dX8_text_124 : decode cX8_text 124 = .ok (.if_icmp .ge 27, 3) := by decide +kernel
theorem dX8_text_127 : decode cX8_text 127 = .ok (.aload_n 0, 1) := by decide +kernel
theorem dX8_text_128 : decode cX8_text 128 = .ok (.iconst 5, 1) := by decide +kernel
theorem dX8_text_129 : decode cX8_text 129 = .ok (.iload_n 2, 1) := by decide +kernel
theorem dX8_text_130 : decode cX8_text 130 = .ok (.imul, 1) := by decide +kernel
theorem dX8_text_131 : decode cX8_text 131 = .ok (.invokevirtual 333, 3) := by decide +kernel
theorem dX8_text_134 : decode cX8_text 134 = .ok (.ifCond .ge 7, 3) := by decide +kernel
theorem dX8_text_137 : decode cX8_text 137 = .ok (.iload_n 1, 1) := by decide +kernel
theorem dX8_text_138 : decode cX8_text 138 = .ok (.goto 6, 3) := by decide +kernel
theorem dX8_text_141 : decode cX8_text 141 = .ok (.iload_n 1, 1) := by decide +kernel
theorem dX8_text_142 : decode cX8_text 142 = .ok (.iconst 1, 1) := by decide +kernel
theorem dX8_text_143 : decode cX8_text 143 = .ok (.iadd, 1) := by decide +kernel
theorem dX8_text_144 : decode cX8_text 144 = .ok (.istore_n 1, 1) := by decide +kernel
theorem dX8_text_145 : decode cX8_text 145 = .ok (.iinc 2 1, 3) := by decide +kernel
theorem dX8_text_148 : decode cX8_text 148 = .ok (.goto (-29), 3) := by decide +kernel
theorem dX8_text_151 : decode cX8_text 151 = .ok (.iload_n 1, 1) := by decide +kernel
theorem dX8_text_152 : decode cX8_text 152 = .ok (.aload_n 0, 1) := by decide +kernel
theorem dX8_text_153 : decode cX8_text 153 = .ok (.getfield 288, 3) := by decide +kernel
theorem dX8_text_156 : decode cX8_text 156 = .ok (.if_icmp .ne 10, 3) := by decide +kernel
theorem dX8_text_159 : decode cX8_text 159 = .ok (.aload_n 0, 1) := by decide +kernel
theorem dX8_text_160 : decode cX8_text 160 = .ok (.getfield 298, 3) := by decide +kernel
theorem dX8_text_163 : decode cX8_text 163 = .ok (.goto 4, 3) := by decide +kernel
theorem dX8_text_166 : decode cX8_text 166 = .ok (.iconst 0, 1) := by decide +kernel
theorem dX8_text_167 : decode cX8_text 167 = .ok (.ireturn, 1) := by decide +kernel
theorem dX8_isSpot_0 : decode cX8_isSpot 0 = .ok (.iload_n 0, 1) := by decide +kernel
theorem dX8_isSpot_1 : decode cX8_isSpot 1 = .ok (.iconst 0, 1) := by decide +kernel
theorem dX8_isSpot_2 : decode cX8_isSpot 2 = .ok (.bipush 9, 2) := by decide +kernel
theorem dX8_isSpot_4 : decode cX8_isSpot 4 = .ok (.invokestatic 78, 3) := by decide +kernel
theorem dX8_isSpot_7 : decode cX8_isSpot 7 = .ok (.ireturn, 1) := by decide +kernel
theorem dX8_hold_0 : decode cX8_hold 0 = .ok (.iload_n 1, 1) := by decide +kernel
theorem dX8_hold_1 : decode cX8_hold 1 = .ok (.invokestatic 336, 3) := by decide +kernel
theorem dX8_hold_4 : decode cX8_hold 4 = .ok (.ifCond .eq 16, 3) := by decide +kernel
theorem dX8_hold_7 : decode cX8_hold 7 = .ok (.iload_n 2, 1) := by decide +kernel
theorem dX8_hold_8 : decode cX8_hold 8 = .ok (.iconst (-1), 1) := by decide +kernel
theorem dX8_hold_9 : decode cX8_hold 9 = .ok (.if_icmp .eq 18, 3) := by decide +kernel
theorem dX8_hold_12 : decode cX8_hold 12 = .ok (.aload_n 0, 1) := by decide +kernel
theorem dX8_hold_13 : decode cX8_hold 13 = .ok (.iload_n 2, 1) := by decide +kernel
theorem dX8_hold_14 : decode cX8_hold 14 = .ok (.invokevirtual 123, 3) := by decide +kernel
theorem dX8_hold_17 : decode cX8_hold 17 = .ok (.ifCond .ne 10, 3) := by decide +kernel
theorem dX8_hold_20 : decode cX8_hold 20 = .ok (.aload_n 0, 1) := by decide +kernel
theorem dX8_hold_21 : decode cX8_hold 21 = .ok (.ldc 73, 2) := by decide +kernel
theorem dX8_hold_23 : decode cX8_hold 23 = .ok (.invokevirtual 101, 3) := by decide +kernel
theorem dX8_hold_26 : decode cX8_hold 26 = .ok (.ireturn, 1) := by decide +kernel
theorem dX8_hold_27 : decode cX8_hold 27 = .ok (.aload_n 0, 1) := by decide +kernel
theorem dX8_hold_28 : decode cX8_hold 28 = .ok (.getfield 9, 3) := by decide +kernel
theorem dX8_hold_31 : decode cX8_hold 31 = .ok (.bipush 10, 2) := by decide +kernel
theorem dX8_hold_33 : decode cX8_hold 33 = .ok (.iload_n 1, 1) := by decide +kernel
theorem dX8_hold_34 : decode cX8_hold 34 = .ok (.iadd, 1) := by decide +kernel
theorem dX8_hold_35 : decode cX8_hold 35 = .ok (.iload_n 2, 1) := by decide +kernel
theorem dX8_hold_36 : decode cX8_hold 36 = .ok (.iastore, 1) := by decide +kernel
theorem dX8_hold_37 : decode cX8_hold 37 = .ok (.iconst 1, 1) := by decide +kernel
theorem dX8_hold_38 : decode cX8_hold 38 = .ok (.ireturn, 1) := by decide +kernel
theorem dX8_as_0 : decode cX8_as 0 = .ok (.iload_n 1, 1) := by decide +kernel
theorem dX8_as_1 : decode cX8_as 1 = .ok (.invokestatic 336, 3) := by decide +kernel
theorem dX8_as_4 : decode cX8_as 4 = .ok (.ifCond .eq 10, 3) := by decide +kernel
theorem dX8_as_7 : decode cX8_as 7 = .ok (.iload_n 2, 1) := by decide +kernel
theorem dX8_as_8 : decode cX8_as 8 = .ok (.invokestatic 94, 3) := by decide +kernel
theorem dX8_as_11 : decode cX8_as 11 = .ok (.ifCond .ne 10, 3) := by decide +kernel
theorem dX8_as_14 : decode cX8_as 14 = .ok (.aload_n 0, 1) := by decide +kernel
theorem dX8_as_15 : decode cX8_as 15 = .ok (.ldc 73, 2) := by decide +kernel
theorem dX8_as_17 : decode cX8_as 17 = .ok (.invokevirtual 101, 3) := by decide +kernel
theorem dX8_as_20 : decode cX8_as 20 = .ok (.ireturn, 1) := by decide +kernel
theorem dX8_as_21 : decode cX8_as 21 = .ok (.aload_n 0, 1) := by decide +kernel
theorem dX8_as_22 : decode cX8_as 22 = .ok (.getfield 9, 3) := by decide +kernel
theorem dX8_as_25 : decode cX8_as 25 = .ok (.bipush 10, 2) := by decide +kernel
theorem dX8_as_27 : decode cX8_as 27 = .ok (.iload_n 1, 1) := by decide +kernel
theorem dX8_as_28 : decode cX8_as 28 = .ok (.iadd, 1) := by decide +kernel
theorem dX8_as_29 : decode cX8_as 29 = .ok (.iaload, 1) := by decide +kernel
theorem dX8_as_30 : decode cX8_as 30 = .ok (.istore_n 3, 1) := by decide +kernel
theorem dX8_as_31 : decode cX8_as 31 = .ok (.iload_n 3, 1) := by decide +kernel
theorem dX8_as_32 : decode cX8_as 32 = .ok (.ifCond .ge 11, 3) := by decide +kernel
theorem dX8_as_35 : decode cX8_as 35 = .ok (.aload_n 0, 1) := by decide +kernel
theorem dX8_as_36 : decode cX8_as 36 = .ok (.ldc_w 339, 3) := by decide +kernel
theorem dX8_as_39 : decode cX8_as 39 = .ok (.invokevirtual 101, 3) := by decide +kernel
theorem dX8_as_42 : decode cX8_as 42 = .ok (.ireturn, 1) := by decide +kernel
theorem dX8_as_43 : decode cX8_as 43 = .ok (.aload_n 0, 1) := by decide +kernel
theorem dX8_as_44 : decode cX8_as 44 = .ok (.iload_n 3, 1) := by decide +kernel
theorem dX8_as_45 : decode cX8_as 45 = .ok (.iconst 0, 1) := by decide +kernel
theorem dX8_as_46 : decode cX8_as 46 = .ok (.invokevirtual 113, 3) := by decide +kernel
theorem dX8_as_49 : decode cX8_as 49 = .ok (.iload_n 2, 1) := by decide +kernel
theorem dX8_as_50 : decode cX8_as 50 = .ok (.invokestatic 116, 3) := by decide +kernel
theorem dX8_as_53 : decode cX8_as 53 = .ok (.ifCond .eq 7, 3) := by decide +kernel
theorem dX8_as_56 : decode cX8_as 56 = .ok (.iload_n 3, 1) := by decide +kernel
theorem dX8_as_57 : decode cX8_as 57 = .ok (.goto 10, 3) := by decide +kernel
theorem dX8_as_60 : decode cX8_as 60 = .ok (.aload_n 0, 1) := by decide +kernel
theorem dX8_as_61 : decode cX8_as 61 = .ok (.ldc_w 340, 3) := by decide +kernel
theorem dX8_as_64 : decode cX8_as 64 = .ok (.invokevirtual 101, 3) := by decide +kernel
theorem dX8_as_67 : decode cX8_as 67 = .ok (.ireturn, 1) := by decide +kernel
theorem dX8_isSheet_0 : decode cX8_isSheet 0 = .ok (.iload_n 0, 1) := by decide +kernel
theorem dX8_isSheet_1 : decode cX8_isSheet 1 = .ok (.iconst 0, 1) := by decide +kernel
theorem dX8_isSheet_2 : decode cX8_isSheet 2 = .ok (.iconst 3, 1) := by decide +kernel
theorem dX8_isSheet_3 : decode cX8_isSheet 3 = .ok (.invokestatic 78, 3) := by decide +kernel
theorem dX8_isSheet_6 : decode cX8_isSheet 6 = .ok (.ireturn, 1) := by decide +kernel
theorem dX8_cutTo_0 : decode cX8_cutTo 0 = .ok (.iload_n 1, 1) := by decide +kernel
theorem dX8_cutTo_1 : decode cX8_cutTo 1 = .ok (.bipush 8, 2) := by decide +kernel
theorem dX8_cutTo_3 : decode cX8_cutTo 3 = .ok (.if_icmp .ne 8, 3) := by decide +kernel
theorem dX8_cutTo_6 : decode cX8_cutTo 6 = .ok (.iload_n 0, 1) := by decide +kernel
theorem dX8_cutTo_7 : decode cX8_cutTo 7 = .ok (.i2b, 1) := by decide +kernel
theorem dX8_cutTo_8 : decode cX8_cutTo 8 = .ok (.goto 15, 3) := by decide +kernel
theorem dX8_cutTo_11 : decode cX8_cutTo 11 = .ok (.iload_n 1, 1) := by decide +kernel
theorem dX8_cutTo_12 : decode cX8_cutTo 12 = .ok (.bipush 16, 2) := by decide +kernel
theorem dX8_cutTo_14 : decode cX8_cutTo 14 = .ok (.if_icmp .ne 8, 3) := by decide +kernel
theorem dX8_cutTo_17 : decode cX8_cutTo 17 = .ok (.iload_n 0, 1) := by decide +kernel
theorem dX8_cutTo_18 : decode cX8_cutTo 18 = .ok (.i2s, 1) := by decide +kernel
theorem dX8_cutTo_19 : decode cX8_cutTo 19 = .ok (.goto 4, 3) := by decide +kernel
theorem dX8_cutTo_22 : decode cX8_cutTo 22 = .ok (.iload_n 0, 1) := by decide +kernel
theorem dX8_cutTo_23 : decode cX8_cutTo 23 = .ok (.ireturn, 1) := by decide +kernel
theorem dX8_sheet_0 : decode cX8_sheet 0 = .ok (.iload_n 1, 1) := by decide +kernel
theorem dX8_sheet_1 : decode cX8_sheet 1 = .ok (.invokestatic 341, 3) := by decide +kernel
theorem dX8_sheet_4 : decode cX8_sheet 4 = .ok (.ifCond .eq 25, 3) := by decide +kernel
theorem dX8_sheet_7 : decode cX8_sheet 7 = .ok (.iload_n 2, 1) := by decide +kernel
theorem dX8_sheet_8 : decode cX8_sheet 8 = .ok (.ifCond .eq 28, 3) := by decide +kernel
theorem dX8_sheet_11 : decode cX8_sheet 11 = .ok (.iload_n 2, 1) := by decide +kernel
theorem dX8_sheet_12 : decode cX8_sheet 12 = .ok (.bipush 8, 2) := by decide +kernel
theorem dX8_sheet_14 : decode cX8_sheet 14 = .ok (.if_icmp .eq 22, 3) := by decide +kernel
theorem dX8_sheet_17 : decode cX8_sheet 17 = .ok (.iload_n 2, 1) := by decide +kernel
theorem dX8_sheet_18 : decode cX8_sheet 18 = .ok (.bipush 16, 2) := by decide +kernel
theorem dX8_sheet_20 : decode cX8_sheet 20 = .ok (.if_icmp .eq 16, 3) := by decide +kernel
theorem dX8_sheet_23 : decode cX8_sheet 23 = .ok (.iload_n 2, 1) := by decide +kernel
theorem dX8_sheet_24 : decode cX8_sheet 24 = .ok (.bipush 32, 2) := by decide +kernel
theorem dX8_sheet_26 : decode cX8_sheet 26 = .ok (.if_icmp .eq 10, 3) := by decide +kernel
theorem dX8_sheet_29 : decode cX8_sheet 29 = .ok (.aload_n 0, 1) := by decide +kernel
theorem dX8_sheet_30 : decode cX8_sheet 30 = .ok (.ldc 73, 2) := by decide +kernel
theorem dX8_sheet_32 : decode cX8_sheet 32 = .ok (.invokevirtual 101, 3) := by decide +kernel
theorem dX8_sheet_35 : decode cX8_sheet 35 = .ok (.ireturn, 1) := by decide +kernel
theorem dX8_sheet_36 : decode cX8_sheet 36 = .ok (.iload_n 3, 1) := by decide +kernel
theorem dX8_sheet_37 : decode cX8_sheet 37 = .ok (.ifCond .ge 11, 3) := by decide +kernel
theorem dX8_sheet_40 : decode cX8_sheet 40 = .ok (.aload_n 0, 1) := by decide +kernel
theorem dX8_sheet_41 : decode cX8_sheet 41 = .ok (.ldc_w 344, 3) := by decide +kernel
theorem dX8_sheet_44 : decode cX8_sheet 44 = .ok (.invokevirtual 101, 3) := by decide +kernel
theorem dX8_sheet_47 : decode cX8_sheet 47 = .ok (.ireturn, 1) := by decide +kernel
theorem dX8_sheet_48 : decode cX8_sheet 48 = .ok (.iload_n 3, 1) := by decide +kernel
theorem dX8_sheet_49 : decode cX8_sheet 49 = .ok (.bipush 40, 2) := by decide +kernel
theorem dX8_sheet_51 : decode cX8_sheet 51 = .ok (.if_icmp .le 10, 3) := by decide +kernel
theorem dX8_sheet_54 : decode cX8_sheet 54 = .ok (.aload_n 0, 1) := by decide +kernel
theorem dX8_sheet_55 : decode cX8_sheet 55 = .ok (.ldc 73, 2) := by decide +kernel
theorem dX8_sheet_57 : decode cX8_sheet 57 = .ok (.invokevirtual 101, 3) := by decide +kernel
theorem dX8_sheet_60 : decode cX8_sheet 60 = .ok (.ireturn, 1) := by decide +kernel
theorem dX8_sheet_61 : decode cX8_sheet 61 = .ok (.aload_n 0, 1) := by decide +kernel
theorem dX8_sheet_62 : decode cX8_sheet 62 = .ok (.getfield 61, 3) := by decide +kernel
theorem dX8_sheet_65 : decode cX8_sheet 65 = .ok (.iload_n 1, 1) := by decide +kernel
theorem dX8_sheet_66 : decode cX8_sheet 66 = .ok (.iload_n 2, 1) := by decide +kernel
theorem dX8_sheet_67 : decode cX8_sheet 67 = .ok (.iastore, 1) := by decide +kernel
theorem dX8_sheet_68 : decode cX8_sheet 68 = .ok (.aload_n 0, 1) := by decide +kernel
theorem dX8_sheet_69 : decode cX8_sheet 69 = .ok (.getfield 64, 3) := by decide +kernel
theorem dX8_sheet_72 : decode cX8_sheet 72 = .ok (.iload_n 1, 1) := by decide +kernel
theorem dX8_sheet_73 : decode cX8_sheet 73 = .ok (.iload_n 2, 1) := by decide +kernel
theorem dX8_sheet_74 : decode cX8_sheet 74 = .ok (.ifCond .ne 7, 3) := by decide +kernel
theorem dX8_sheet_77 : decode cX8_sheet 77 = .ok (.iconst 0, 1) := by decide +kernel
theorem dX8_sheet_78 : decode cX8_sheet 78 = .ok (.goto 4, 3) := by decide +kernel
theorem dX8_sheet_81 : decode cX8_sheet 81 = .ok (.iload_n 3, 1) := by decide +kernel
theorem dX8_sheet_82 : decode cX8_sheet 82 = .ok (.iastore, 1) := by decide +kernel
theorem dX8_sheet_83 : decode cX8_sheet 83 = .ok (.iconst 0, 1) := by decide +kernel
theorem dX8_sheet_84 : decode cX8_sheet 84 = .ok (.istore 4, 2) := by decide +kernel
theorem dX8_sheet_86 : decode cX8_sheet 86 = .ok (.iload 4, 2) := by decide +kernel
theorem dX8_sheet_88 : decode cX8_sheet 88 = .ok (.bipush 40, 2) := by decide +kernel
theorem dX8_sheet_90 : decode cX8_sheet 90 = .ok (.if_icmp .ge 22, 3) := by decide +kernel
theorem dX8_sheet_93 : decode cX8_sheet 93 = .ok (.aload_n 0, 1) := by decide +kernel
theorem dX8_sheet_94 : decode cX8_sheet 94 = .ok (.getfield 67, 3) := by decide +kernel
theorem dX8_sheet_97 : decode cX8_sheet 97 = .ok (.bipush 40, 2) := by decide +kernel
theorem dX8_sheet_99 : decode cX8_sheet 99 = .ok (.iload_n 1, 1) := by decide +kernel
theorem dX8_sheet_100 : decode cX8_sheet 100 = .ok (.imul, 1) := by decide +kernel
theorem dX8_sheet_101 : decode cX8_sheet 101 = .ok (.iload 4, 2) := by decide +kernel
theorem dX8_sheet_103 : decode cX8_sheet 103 = .ok (.iadd, 1) := by decide +kernel
theorem dX8_sheet_104 : decode cX8_sheet 104 = .ok (.iconst 0, 1) := by decide +kernel
theorem dX8_sheet_105 : decode cX8_sheet 105 = .ok (.iastore, 1) := by decide +kernel
theorem dX8_sheet_106 : decode cX8_sheet 106 = .ok (.iinc 4 1, 3) := by decide +kernel
theorem dX8_sheet_109 : decode cX8_sheet 109 = .ok (.goto (-23), 3) := by decide +kernel
theorem dX8_sheet_112 : decode cX8_sheet 112 = .ok (.aload_n 0, 1) := by decide +kernel
theorem dX8_sheet_113 : decode cX8_sheet 113 = .ok (.getfield 64, 3) := by decide +kernel
theorem dX8_sheet_116 : decode cX8_sheet 116 = .ok (.iload_n 1, 1) := by decide +kernel
theorem dX8_sheet_117 : decode cX8_sheet 117 = .ok (.iaload, 1) := by decide +kernel
theorem dX8_sheet_118 : decode cX8_sheet 118 = .ok (.ireturn, 1) := by decide +kernel
theorem dX8_write_0 : decode cX8_write 0 = .ok (.iload_n 1, 1) := by decide +kernel
theorem dX8_write_1 : decode cX8_write 1 = .ok (.invokestatic 341, 3) := by decide +kernel
theorem dX8_write_4 : decode cX8_write 4 = .ok (.ifCond .ne 10, 3) := by decide +kernel
theorem dX8_write_7 : decode cX8_write 7 = .ok (.aload_n 0, 1) := by decide +kernel
theorem dX8_write_8 : decode cX8_write 8 = .ok (.ldc 73, 2) := by decide +kernel
theorem dX8_write_10 : decode cX8_write 10 = .ok (.invokevirtual 101, 3) := by decide +kernel
theorem dX8_write_13 : decode cX8_write 13 = .ok (.ireturn, 1) := by decide +kernel
theorem dX8_write_14 : decode cX8_write 14 = .ok (.aload_n 0, 1) := by decide +kernel
theorem dX8_write_15 : decode cX8_write 15 = .ok (.getfield 61, 3) := by decide +kernel
theorem dX8_write_18 : decode cX8_write 18 = .ok (.iload_n 1, 1) := by decide +kernel
theorem dX8_write_19 : decode cX8_write 19 = .ok (.iaload, 1) := by decide +kernel
theorem dX8_write_20 : decode cX8_write 20 = .ok (.ifCond .ne 11, 3) := by decide +kernel
theorem dX8_write_23 : decode cX8_write 23 = .ok (.aload_n 0, 1) := by decide +kernel
theorem dX8_write_24 : decode cX8_write 24 = .ok (.ldc_w 339, 3) := by decide +kernel
theorem dX8_write_27 : decode cX8_write 27 = .ok (.invokevirtual 101, 3) := by decide +kernel
theorem dX8_write_30 : decode cX8_write 30 = .ok (.ireturn, 1) := by decide +kernel
theorem dX8_write_31 : decode cX8_write 31 = .ok (.iload_n 2, 1) := by decide +kernel
theorem dX8_write_32 : decode cX8_write 32 = .ok (.iconst 0, 1) := by decide +kernel
theorem dX8_write_33 : decode cX8_write 33 = .ok (.aload_n 0, 1) := by decide +kernel
theorem dX8_write_34 : decode cX8_write 34 = .ok (.getfield 64, 3) := by decide +kernel
theorem dX8_write_37 : decode cX8_write 37 = .ok (.iload_n 1, 1) := by decide +kernel
theorem dX8_write_38 : decode cX8_write 38 = .ok (.iaload, 1) := by decide +kernel
theorem dX8_write_39 : decode cX8_write 39 = .ok (.iconst 1, 1) := by decide +kernel
theorem dX8_write_40 : decode cX8_write 40 = .ok (.isub, 1) := by decide +kernel
theorem dX8_write_41 : decode cX8_write 41 = .ok (.invokestatic 78, 3) := by decide +kernel
theorem dX8_write_44 : decode cX8_write 44 = .ok (.ifCond .ne 10, 3) := by decide +kernel
theorem dX8_write_47 : decode cX8_write 47 = .ok (.aload_n 0, 1) := by decide +kernel
theorem dX8_write_48 : decode cX8_write 48 = .ok (.ldc 73, 2) := by decide +kernel
theorem dX8_write_50 : decode cX8_write 50 = .ok (.invokevirtual 101, 3) := by decide +kernel
theorem dX8_write_53 : decode cX8_write 53 = .ok (.ireturn, 1) := by decide +kernel
theorem dX8_write_54 : decode cX8_write 54 = .ok (.aload_n 0, 1) := by decide +kernel
theorem dX8_write_55 : decode cX8_write 55 = .ok (.getfield 67, 3) := by decide +kernel
theorem dX8_write_58 : decode cX8_write 58 = .ok (.bipush 40, 2) := by decide +kernel
theorem dX8_write_60 : decode cX8_write 60 = .ok (.iload_n 1, 1) := by decide +kernel
theorem dX8_write_61 : decode cX8_write 61 = .ok (.imul, 1) := by decide +kernel
theorem dX8_write_62 : decode cX8_write 62 = .ok (.iload_n 2, 1) := by decide +kernel
theorem dX8_write_63 : decode cX8_write 63 = .ok (.iadd, 1) := by decide +kernel
theorem dX8_write_64 : decode cX8_write 64 = .ok (.iload_n 3, 1) := by decide +kernel
theorem dX8_write_65 : decode cX8_write 65 = .ok (.aload_n 0, 1) := by decide +kernel
theorem dX8_write_66 : decode cX8_write 66 = .ok (.getfield 61, 3) := by decide +kernel
theorem dX8_write_69 : decode cX8_write 69 = .ok (.iload_n 1, 1) := by decide +kernel
theorem dX8_write_70 : decode cX8_write 70 = .ok (.iaload, 1) := by decide +kernel
theorem dX8_write_71 : decode cX8_write 71 = .ok (.invokestatic 345, 3) := by decide +kernel
theorem dX8_write_74 : decode cX8_write 74 = .ok (.iastore, 1) := by decide +kernel
theorem dX8_write_75 : decode cX8_write 75 = .ok (.iconst 1, 1) := by decide +kernel
theorem dX8_write_76 : decode cX8_write 76 = .ok (.ireturn, 1) := by decide +kernel
theorem dX8_copy_0 : decode cX8_copy 0 = .ok (.iload_n 1, 1) := by decide +kernel
theorem dX8_copy_1 : decode cX8_copy 1 = .ok (.invokestatic 341, 3) := by decide +kernel
theorem dX8_copy_4 : decode cX8_copy 4 = .ok (.ifCond .eq 10, 3) := by decide +kernel
theorem dX8_copy_7 : decode cX8_copy 7 = .ok (.iload_n 3, 1) := by decide +kernel
theorem dX8_copy_8 : decode cX8_copy 8 = .ok (.invokestatic 341, 3) := by decide +kernel
theorem dX8_copy_11 : decode cX8_copy 11 = .ok (.ifCond .ne 10, 3) := by decide +kernel
theorem dX8_copy_14 : decode cX8_copy 14 = .ok (.aload_n 0, 1) := by decide +kernel
theorem dX8_copy_15 : decode cX8_copy 15 = .ok (.ldc 73, 2) := by decide +kernel
theorem dX8_copy_17 : decode cX8_copy 17 = .ok (.invokevirtual 101, 3) := by decide +kernel
theorem dX8_copy_20 : decode cX8_copy 20 = .ok (.ireturn, 1) := by decide +kernel
theorem dX8_copy_21 : decode cX8_copy 21 = .ok (.aload_n 0, 1) := by decide +kernel
theorem dX8_copy_22 : decode cX8_copy 22 = .ok (.getfield 61, 3) := by decide +kernel
theorem dX8_copy_25 : decode cX8_copy 25 = .ok (.iload_n 1, 1) := by decide +kernel
theorem dX8_copy_26 : decode cX8_copy 26 = .ok (.iaload, 1) := by decide +kernel
theorem dX8_copy_27 : decode cX8_copy 27 = .ok (.ifCond .eq 12, 3) := by decide +kernel
theorem dX8_copy_30 : decode cX8_copy 30 = .ok (.aload_n 0, 1) := by decide +kernel
theorem dX8_copy_31 : decode cX8_copy 31 = .ok (.getfield 61, 3) := by decide +kernel
theorem dX8_copy_34 : decode cX8_copy 34 = .ok (.iload_n 3, 1) := by decide +kernel
theorem dX8_copy_35 : decode cX8_copy 35 = .ok (.iaload, 1) := by decide +kernel
theorem dX8_copy_36 : decode cX8_copy 36 = .ok (.ifCond .ne 11, 3) := by decide +kernel
theorem dX8_copy_39 : decode cX8_copy 39 = .ok (.aload_n 0, 1) := by decide +kernel
theorem dX8_copy_40 : decode cX8_copy 40 = .ok (.ldc_w 339, 3) := by decide +kernel
theorem dX8_copy_43 : decode cX8_copy 43 = .ok (.invokevirtual 101, 3) := by decide +kernel
theorem dX8_copy_46 : decode cX8_copy 46 = .ok (.ireturn, 1) := by decide +kernel
theorem dX8_copy_47 : decode cX8_copy 47 = .ok (.aload_n 0, 1) := by decide +kernel
theorem dX8_copy_48 : decode cX8_copy 48 = .ok (.getfield 61, 3) := by decide +kernel
theorem dX8_copy_51 : decode cX8_copy 51 = .ok (.iload_n 1, 1) := by decide +kernel
theorem dX8_copy_52 : decode cX8_copy 52 = .ok (.iaload, 1) := by decide +kernel
theorem dX8_copy_53 : decode cX8_copy 53 = .ok (.aload_n 0, 1) := by decide +kernel
theorem dX8_copy_54 : decode cX8_copy 54 = .ok (.getfield 61, 3) := by decide +kernel
theorem dX8_copy_57 : decode cX8_copy 57 = .ok (.iload_n 3, 1) := by decide +kernel
theorem dX8_copy_58 : decode cX8_copy 58 = .ok (.iaload, 1) := by decide +kernel
theorem dX8_copy_59 : decode cX8_copy 59 = .ok (.if_icmp .eq 11, 3) := by decide +kernel
theorem dX8_copy_62 : decode cX8_copy 62 = .ok (.aload_n 0, 1) := by decide +kernel
theorem dX8_copy_63 : decode cX8_copy 63 = .ok (.ldc_w 340, 3) := by decide +kernel
theorem dX8_copy_66 : decode cX8_copy 66 = .ok (.invokevirtual 101, 3) := by decide +kernel
theorem dX8_copy_69 : decode cX8_copy 69 = .ok (.ireturn, 1) := by decide +kernel
theorem dX8_copy_70 : decode cX8_copy 70 = .ok (.iload_n 2, 1) := by decide +kernel
theorem dX8_copy_71 : decode cX8_copy 71 = .ok (.ifCond .lt 48, 3) := by decide +kernel
theorem dX8_copy_74 : decode cX8_copy 74 = .ok (.iload 4, 2) := by decide +kernel
theorem dX8_copy_76 : decode cX8_copy 76 = .ok (.ifCond .lt 43, 3) := by decide +kernel
theorem dX8_copy_79 : decode cX8_copy 79 = .ok (.iload 5, 2) := by decide +kernel
theorem dX8_copy_81 : decode cX8_copy 81 = .ok (.ifCond .lt 38, 3) := by decide +kernel
theorem dX8_copy_84 : decode cX8_copy 84 = .ok (.iload_n 2, 1) := by decide +kernel
theorem dX8_copy_85 : decode cX8_copy 85 = .ok (.i2l, 1) := by decide +kernel
theorem dX8_copy_86 : decode cX8_copy 86 = .ok (.iload 5, 2) := by decide +kernel
theorem dX8_copy_88 : decode cX8_copy 88 = .ok (.i2l, 1) := by decide +kernel
theorem dX8_copy_89 : decode cX8_copy 89 = .ok (.ladd, 1) := by decide +kernel
theorem dX8_copy_90 : decode cX8_copy 90 = .ok (.aload_n 0, 1) := by decide +kernel
theorem dX8_copy_91 : decode cX8_copy 91 = .ok (.getfield 64, 3) := by decide +kernel
theorem dX8_copy_94 : decode cX8_copy 94 = .ok (.iload_n 1, 1) := by decide +kernel
theorem dX8_copy_95 : decode cX8_copy 95 = .ok (.iaload, 1) := by decide +kernel
theorem dX8_copy_96 : decode cX8_copy 96 = .ok (.i2l, 1) := by decide +kernel
theorem dX8_copy_97 : decode cX8_copy 97 = .ok (.lcmp, 1) := by decide +kernel
theorem dX8_copy_98 : decode cX8_copy 98 = .ok (.ifCond .gt 21, 3) := by decide +kernel
theorem dX8_copy_101 : decode cX8_copy 101 = .ok (.iload 4, 2) := by decide +kernel
theorem dX8_copy_103 : decode cX8_copy 103 = .ok (.i2l, 1) := by decide +kernel
theorem dX8_copy_104 : decode cX8_copy 104 = .ok (.iload 5, 2) := by decide +kernel
theorem dX8_copy_106 : decode cX8_copy 106 = .ok (.i2l, 1) := by decide +kernel
theorem dX8_copy_107 : decode cX8_copy 107 = .ok (.ladd, 1) := by decide +kernel
theorem dX8_copy_108 : decode cX8_copy 108 = .ok (.aload_n 0, 1) := by decide +kernel
theorem dX8_copy_109 : decode cX8_copy 109 = .ok (.getfield 64, 3) := by decide +kernel
theorem dX8_copy_112 : decode cX8_copy 112 = .ok (.iload_n 3, 1) := by decide +kernel
theorem dX8_copy_113 : decode cX8_copy 113 = .ok (.iaload, 1) := by decide +kernel
theorem dX8_copy_114 : decode cX8_copy 114 = .ok (.i2l, 1) := by decide +kernel
theorem dX8_copy_115 : decode cX8_copy 115 = .ok (.lcmp, 1) := by decide +kernel
theorem dX8_copy_116 : decode cX8_copy 116 = .ok (.ifCond .le 10, 3) := by decide +kernel
theorem dX8_copy_119 : decode cX8_copy 119 = .ok (.aload_n 0, 1) := by decide +kernel
theorem dX8_copy_120 : decode cX8_copy 120 = .ok (.ldc 73, 2) := by decide +kernel
theorem dX8_copy_122 : decode cX8_copy 122 = .ok (.invokevirtual 101, 3) := by decide +kernel
theorem dX8_copy_125 : decode cX8_copy 125 = .ok (.ireturn, 1) := by decide +kernel
theorem dX8_copy_126 : decode cX8_copy 126 = .ok (.iconst 0, 1) := by decide +kernel
theorem dX8_copy_127 : decode cX8_copy 127 = .ok (.istore 6, 2) := by decide +kernel
theorem dX8_copy_129 : decode cX8_copy 129 = .ok (.iload 6, 2) := by decide +kernel
theorem dX8_copy_131 : decode cX8_copy 131 = .ok (.iload 5, 2) := by decide +kernel
theorem dX8_copy_133 : decode cX8_copy 133 = .ok (.if_icmp .ge 30, 3) := by decide +kernel
theorem dX8_copy_136 : decode cX8_copy 136 = .ok (.aload_n 0, 1) := by decide +kernel
theorem dX8_copy_137 : decode cX8_copy 137 = .ok (.getfield 70, 3) := by decide +kernel
theorem dX8_copy_140 : decode cX8_copy 140 = .ok (.iload 6, 2) := by decide +kernel
theorem dX8_copy_142 : decode cX8_copy 142 = .ok (.aload_n 0, 1) := by decide +kernel
theorem dX8_copy_143 : decode cX8_copy 143 = .ok (.getfield 67, 3) := by decide +kernel
theorem dX8_copy_146 : decode cX8_copy 146 = .ok (.bipush 40, 2) := by decide +kernel
theorem dX8_copy_148 : decode cX8_copy 148 = .ok (.iload_n 1, 1) := by decide +kernel
theorem dX8_copy_149 : decode cX8_copy 149 = .ok (.imul, 1) := by decide +kernel
theorem dX8_copy_150 : decode cX8_copy 150 = .ok (.iload_n 2, 1) := by decide +kernel
theorem dX8_copy_151 : decode cX8_copy 151 = .ok (.iadd, 1) := by decide +kernel
theorem dX8_copy_152 : decode cX8_copy 152 = .ok (.iload 6, 2) := by decide +kernel
theorem dX8_copy_154 : decode cX8_copy 154 = .ok (.iadd, 1) := by decide +kernel
theorem dX8_copy_155 : decode cX8_copy 155 = .ok (.iaload, 1) := by decide +kernel
theorem dX8_copy_156 : decode cX8_copy 156 = .ok (.iastore, 1) := by decide +kernel
theorem dX8_copy_157 : decode cX8_copy 157 = .ok (.iinc 6 1, 3) := by decide +kernel
theorem dX8_copy_160 : decode cX8_copy 160 = .ok (.goto (-31), 3) := by decide +kernel
theorem dX8_copy_163 : decode cX8_copy 163 = .ok (.iconst 0, 1) := by decide +kernel
theorem dX8_copy_164 : decode cX8_copy 164 = .ok (.istore 6, 2) := by decide +kernel
theorem dX8_copy_166 : decode cX8_copy 166 = .ok (.iload 6, 2) := by decide +kernel
theorem dX8_copy_168 : decode cX8_copy 168 = .ok (.iload 5, 2) := by decide +kernel
theorem dX8_copy_170 : decode cX8_copy 170 = .ok (.if_icmp .ge 31, 3) := by decide +kernel
theorem dX8_copy_173 : decode cX8_copy 173 = .ok (.aload_n 0, 1) := by decide +kernel
theorem dX8_copy_174 : decode cX8_copy 174 = .ok (.getfield 67, 3) := by decide +kernel
theorem dX8_copy_177 : decode cX8_copy 177 = .ok (.bipush 40, 2) := by decide +kernel
theorem dX8_copy_179 : decode cX8_copy 179 = .ok (.iload_n 3, 1) := by decide +kernel
theorem dX8_copy_180 : decode cX8_copy 180 = .ok (.imul, 1) := by decide +kernel
theorem dX8_copy_181 : decode cX8_copy 181 = .ok (.iload 4, 2) := by decide +kernel
theorem dX8_copy_183 : decode cX8_copy 183 = .ok (.iadd, 1) := by decide +kernel
theorem dX8_copy_184 : decode cX8_copy 184 = .ok (.iload 6, 2) := by decide +kernel
theorem dX8_copy_186 : decode cX8_copy 186 = .ok (.iadd, 1) := by decide +kernel
theorem dX8_copy_187 : decode cX8_copy 187 = .ok (.aload_n 0, 1) := by decide +kernel
theorem dX8_copy_188 : decode cX8_copy 188 = .ok (.getfield 70, 3) := by decide +kernel
theorem dX8_copy_191 : decode cX8_copy 191 = .ok (.iload 6, 2) := by decide +kernel
theorem dX8_copy_193 : decode cX8_copy 193 = .ok (.iaload, 1) := by decide +kernel
theorem dX8_copy_194 : decode cX8_copy 194 = .ok (.iastore, 1) := by decide +kernel
theorem dX8_copy_195 : decode cX8_copy 195 = .ok (.iinc 6 1, 3) := by decide +kernel
theorem dX8_copy_198 : decode cX8_copy 198 = .ok (.goto (-32), 3) := by decide +kernel
theorem dX8_copy_201 : decode cX8_copy 201 = .ok (.iload 5, 2) := by decide +kernel
theorem dX8_copy_203 : decode cX8_copy 203 = .ok (.ireturn, 1) := by decide +kernel
theorem dX8_load_0 : decode cX8_load 0 = .ok (.iload_n 1, 1) := by decide +kernel
theorem dX8_load_1 : decode cX8_load 1 = .ok (.invokestatic 341, 3) := by decide +kernel
theorem dX8_load_4 : decode cX8_load 4 = .ok (.ifCond .ne 10, 3) := by decide +kernel
theorem dX8_load_7 : decode cX8_load 7 = .ok (.aload_n 0, 1) := by decide +kernel
theorem dX8_load_8 : decode cX8_load 8 = .ok (.ldc 73, 2) := by decide +kernel
theorem dX8_load_10 : decode cX8_load 10 = .ok (.invokevirtual 101, 3) := by decide +kernel
theorem dX8_load_13 : decode cX8_load 13 = .ok (.ireturn, 1) := by decide +kernel
theorem dX8_load_14 : decode cX8_load 14 = .ok (.aload_n 0, 1) := by decide +kernel
theorem dX8_load_15 : decode cX8_load 15 = .ok (.getfield 61, 3) := by decide +kernel
theorem dX8_load_18 : decode cX8_load 18 = .ok (.iload_n 1, 1) := by decide +kernel
theorem dX8_load_19 : decode cX8_load 19 = .ok (.iaload, 1) := by decide +kernel
theorem dX8_load_20 : decode cX8_load 20 = .ok (.ifCond .ne 11, 3) := by decide +kernel
theorem dX8_load_23 : decode cX8_load 23 = .ok (.aload_n 0, 1) := by decide +kernel
theorem dX8_load_24 : decode cX8_load 24 = .ok (.ldc_w 339, 3) := by decide +kernel
theorem dX8_load_27 : decode cX8_load 27 = .ok (.invokevirtual 101, 3) := by decide +kernel
theorem dX8_load_30 : decode cX8_load 30 = .ok (.ireturn, 1) := by decide +kernel
theorem dX8_load_31 : decode cX8_load 31 = .ok (.iconst 0, 1) := by decide +kernel
theorem dX8_load_32 : decode cX8_load 32 = .ok (.istore_n 2, 1) := by decide +kernel
theorem dX8_load_33 : decode cX8_load 33 = .ok (.iload_n 2, 1) := by decide +kernel
theorem dX8_load_34 : decode cX8_load 34 = .ok (.aload_n 0, 1) := by decide +kernel
theorem dX8_load_35 : decode cX8_load 35 = .ok (.getfield 64, 3) := by decide +kernel
theorem dX8_load_38 : decode cX8_load 38 = .ok (.iload_n 1, 1) := by decide +kernel
theorem dX8_load_39 : decode cX8_load 39 = .ok (.iaload, 1) := by decide +kernel
theorem dX8_load_40 : decode cX8_load 40 = .ok (.if_icmp .ge 55, 3) := by decide +kernel
theorem dX8_load_43 : decode cX8_load 43 = .ok (.iload_n 2, 1) := by decide +kernel
theorem dX8_load_44 : decode cX8_load 44 = .ok (.bipush 12, 2) := by decide +kernel
theorem dX8_load_46 : decode cX8_load 46 = .ok (.if_icmp .ge 49, 3) := by decide +kernel
theorem dX8_load_49 : decode cX8_load 49 = .ok (.aload_n 0, 1) := by decide +kernel
theorem dX8_load_50 : decode cX8_load 50 = .ok (.getfield 67, 3) := by decide +kernel
theorem dX8_load_53 : decode cX8_load 53 = .ok (.bipush 40, 2) := by decide +kernel
theorem dX8_load_55 : decode cX8_load 55 = .ok (.iload_n 1, 1) := by decide +kernel
theorem dX8_load_56 : decode cX8_load 56 = .ok (.imul, 1) := by decide +kernel
theorem dX8_load_57 : decode cX8_load 57 = .ok (.iload_n 2, 1) := by decide +kernel
theorem dX8_load_58 : decode cX8_load 58 = .ok (.iadd, 1) := by decide +kernel
theorem dX8_load_59 : decode cX8_load 59 = .ok (.iaload, 1) := by decide +kernel
theorem dX8_load_60 : decode cX8_load 60 = .ok (.iconst 0, 1) := by decide +kernel
theorem dX8_load_61 : decode cX8_load 61 = .ok (.bipush 9, 2) := by decide +kernel
theorem dX8_load_63 : decode cX8_load 63 = .ok (.invokestatic 78, 3) := by decide +kernel
theorem dX8_load_66 : decode cX8_load 66 = .ok (.ifCond .eq 29, 3) := by decide +kernel
theorem dX8_load_69 : decode cX8_load 69 = .ok (.aload_n 0, 1) := by decide +kernel
theorem dX8_load_70 : decode cX8_load 70 = .ok (.getfield 9, 3) := by decide +kernel
theorem dX8_load_73 : decode cX8_load 73 = .ok (.bipush 20, 2) := by decide +kernel
theorem dX8_load_75 : decode cX8_load 75 = .ok (.iload_n 2, 1) := by decide +kernel
theorem dX8_load_76 : decode cX8_load 76 = .ok (.iadd, 1) := by decide +kernel
theorem dX8_load_77 : decode cX8_load 77 = .ok (.aload_n 0, 1) := by decide +kernel
theorem dX8_load_78 : decode cX8_load 78 = .ok (.getfield 67, 3) := by decide +kernel
theorem dX8_load_81 : decode cX8_load 81 = .ok (.bipush 40, 2) := by decide +kernel
theorem dX8_load_83 : decode cX8_load 83 = .ok (.iload_n 1, 1) := by decide +kernel
theorem dX8_load_84 : decode cX8_load 84 = .ok (.imul, 1) := by decide +kernel
theorem dX8_load_85 : decode cX8_load 85 = .ok (.iload_n 2, 1) := by decide +kernel
theorem dX8_load_86 : decode cX8_load 86 = .ok (.iadd, 1) := by decide +kernel
theorem dX8_load_87 : decode cX8_load 87 = .ok (.iaload, 1) := by decide +kernel
theorem dX8_load_88 : decode cX8_load 88 = .ok (.iastore, 1) := by decide +kernel
theorem dX8_load_89 : decode cX8_load 89 = .ok (.iinc 2 1, 3) := by decide +kernel
theorem dX8_load_92 : decode cX8_load 92 = .ok (.goto (-59), 3) := by decide +kernel
theorem dX8_load_95 : decode cX8_load 95 = .ok (.iload_n 2, 1) := by decide +kernel
theorem dX8_load_96 : decode cX8_load 96 = .ok (.ireturn, 1) := by decide +kernel
theorem dX8_judge_0 : decode cX8_judge 0 = .ok (.iload_n 1, 1) := by decide +kernel
theorem dX8_judge_1 : decode cX8_judge 1 = .ok (.invokestatic 341, 3) := by decide +kernel
theorem dX8_judge_4 : decode cX8_judge 4 = .ok (.ifCond .ne 10, 3) := by decide +kernel
theorem dX8_judge_7 : decode cX8_judge 7 = .ok (.aload_n 0, 1) := by decide +kernel
theorem dX8_judge_8 : decode cX8_judge 8 = .ok (.ldc 73, 2) := by decide +kernel
theorem dX8_judge_10 : decode cX8_judge 10 = .ok (.invokevirtual 101, 3) := by decide +kernel
theorem dX8_judge_13 : decode cX8_judge 13 = .ok (.ireturn, 1) := by decide +kernel
theorem dX8_judge_14 : decode cX8_judge 14 = .ok (.aload_n 0, 1) := by decide +kernel
theorem dX8_judge_15 : decode cX8_judge 15 = .ok (.getfield 61, 3) := by decide +kernel
theorem dX8_judge_18 : decode cX8_judge 18 = .ok (.iload_n 1, 1) := by decide +kernel
theorem dX8_judge_19 : decode cX8_judge 19 = .ok (.iaload, 1) := by decide +kernel
theorem dX8_judge_20 : decode cX8_judge 20 = .ok (.ifCond .ne 11, 3) := by decide +kernel
theorem dX8_judge_23 : decode cX8_judge 23 = .ok (.aload_n 0, 1) := by decide +kernel
theorem dX8_judge_24 : decode cX8_judge 24 = .ok (.ldc_w 339, 3) := by decide +kernel
theorem dX8_judge_27 : decode cX8_judge 27 = .ok (.invokevirtual 101, 3) := by decide +kernel
theorem dX8_judge_30 : decode cX8_judge 30 = .ok (.ireturn, 1) := by decide +kernel
theorem dX8_judge_31 : decode cX8_judge 31 = .ok (.aload_n 0, 1) := by decide +kernel
theorem dX8_judge_32 : decode cX8_judge 32 = .ok (.getfield 9, 3) := by decide +kernel
theorem dX8_judge_35 : decode cX8_judge 35 = .ok (.aload_n 0, 1) := by decide +kernel
theorem dX8_judge_36 : decode cX8_judge 36 = .ok (.getfield 16, 3) := by decide +kernel
theorem dX8_judge_39 : decode cX8_judge 39 = .ok (.invokestatic 74, 3) := by decide +kernel
theorem dX8_judge_42 : decode cX8_judge 42 = .ok (.iconst 0, 1) := by decide +kernel
theorem dX8_judge_43 : decode cX8_judge 43 = .ok (.istore_n 2, 1) := by decide +kernel
theorem dX8_judge_44 : decode cX8_judge 44 = .ok (.iconst 0, 1) := by decide +kernel
theorem dX8_judge_45 : decode cX8_judge 45 = .ok (.istore_n 3, 1) := by decide +kernel
theorem dX8_judge_46 : decode cX8_judge 46 = .ok (.iload_n 3, 1) := by decide +kernel
theorem dX8_judge_47 : decode cX8_judge 47 = .ok (.aload_n 0, 1) := by decide +kernel
theorem dX8_judge_48 : decode cX8_judge 48 = .ok (.getfield 64, 3) := by decide +kernel
theorem dX8_judge_51 : decode cX8_judge 51 = .ok (.iload_n 1, 1) := by decide +kernel
theorem dX8_judge_52 : decode cX8_judge 52 = .ok (.iaload, 1) := by decide +kernel
theorem dX8_judge_53 : decode cX8_judge 53 = .ok (.if_icmp .ge 95, 3) := by decide +kernel
theorem dX8_judge_56 : decode cX8_judge 56 = .ok (.iload_n 2, 1) := by decide +kernel
theorem dX8_judge_57 : decode cX8_judge 57 = .ok (.ifCond .ne 91, 3) := by decide +kernel
theorem dX8_judge_60 : decode cX8_judge 60 = .ok (.aload_n 0, 1) := by decide +kernel
theorem dX8_judge_61 : decode cX8_judge 61 = .ok (.getfield 67, 3) := by decide +kernel
theorem dX8_judge_64 : decode cX8_judge 64 = .ok (.bipush 40, 2) := by decide +kernel
theorem dX8_judge_66 : decode cX8_judge 66 = .ok (.iload_n 1, 1) := by decide +kernel
theorem dX8_judge_67 : decode cX8_judge 67 = .ok (.imul, 1) := by decide +kernel
theorem dX8_judge_68 : decode cX8_judge 68 = .ok (.iload_n 3, 1) := by decide +kernel
theorem dX8_judge_69 : decode cX8_judge 69 = .ok (.iadd, 1) := by decide +kernel
theorem dX8_judge_70 : decode cX8_judge 70 = .ok (.iaload, 1) := by decide +kernel
theorem dX8_judge_71 : decode cX8_judge 71 = .ok (.istore 4, 2) := by decide +kernel
theorem dX8_judge_73 : decode cX8_judge 73 = .ok (.iload 4, 2) := by decide +kernel
theorem dX8_judge_75 : decode cX8_judge 75 = .ok (.invokestatic 98, 3) := by decide +kernel
theorem dX8_judge_78 : decode cX8_judge 78 = .ok (.ifCond .eq 19, 3) := by decide +kernel
theorem dX8_judge_81 : decode cX8_judge 81 = .ok (.aload_n 0, 1) := by decide +kernel
theorem dX8_judge_82 : decode cX8_judge 82 = .ok (.aload_n 0, 1) := by decide +kernel
theorem dX8_judge_83 : decode cX8_judge 83 = .ok (.getfield 9, 3) := by decide +kernel
theorem dX8_judge_86 : decode cX8_judge 86 = .ok (.bipush 49, 2) := by decide +kernel
theorem dX8_judge_88 : decode cX8_judge 88 = .ok (.iaload, 1) := by decide +kernel
theorem dX8_judge_89 : decode cX8_judge 89 = .ok (.iload 4, 2) := by decide +kernel
theorem dX8_judge_91 : decode cX8_judge 91 = .ok (.invokevirtual 138, 3) := by decide +kernel
theorem dX8_judge_94 : decode cX8_judge 94 = .ok (.goto 4, 3) := by decide +kernel
theorem dX8_judge_97 : decode cX8_judge 97 = .ok (.iconst (-1), 1) := by decide +kernel
theorem dX8_judge_98 : decode cX8_judge 98 = .ok (.istore 5, 2) := by decide +kernel
theorem dX8_judge_100 : decode cX8_judge 100 = .ok (.iload 5, 2) := by decide +kernel
theorem dX8_judge_102 : decode cX8_judge 102 = .ok (.ifCond .ge 8, 3) := by decide +kernel
theorem dX8_judge_105 : decode cX8_judge 105 = .ok (.ldc 144, 2) := by decide +kernel
theorem dX8_judge_107 : decode cX8_judge 107 = .ok (.goto 22, 3) := by decide +kernel
theorem dX8_judge_110 : decode cX8_judge 110 = .ok (.aload_n 0, 1) := by decide +kernel
theorem dX8_judge_111 : decode cX8_judge 111 = .ok (.aload_n 0, 1) := by decide +kernel
theorem dX8_judge_112 : decode cX8_judge 112 = .ok (.iload 5, 2) := by decide +kernel
theorem dX8_judge_114 : decode cX8_judge 114 = .ok (.invokevirtual 126, 3) := by decide +kernel
theorem dX8_judge_117 : decode cX8_judge 117 = .ok (.invokevirtual 156, 3) := by decide +kernel
theorem dX8_judge_120 : decode cX8_judge 120 = .ok (.ifCond .eq 8, 3) := by decide +kernel
theorem dX8_judge_123 : decode cX8_judge 123 = .ok (.ldc 159, 2) := by decide +kernel
theorem dX8_judge_125 : decode cX8_judge 125 = .ok (.goto 4, 3) := by decide +kernel
theorem dX8_judge_128 : decode cX8_judge 128 = .ok (.iconst 0, 1) := by decide +kernel
theorem dX8_judge_129 : decode cX8_judge 129 = .ok (.istore_n 2, 1) := by decide +kernel
theorem dX8_judge_130 : decode cX8_judge 130 = .ok (.iload_n 2, 1) := by decide +kernel
theorem dX8_judge_131 : decode cX8_judge 131 = .ok (.ifCond .ne 11, 3) := by decide +kernel
theorem dX8_judge_134 : decode cX8_judge 134 = .ok (.aload_n 0, 1) := by decide +kernel
theorem dX8_judge_135 : decode cX8_judge 135 = .ok (.iload 5, 2) := by decide +kernel
theorem dX8_judge_137 : decode cX8_judge 137 = .ok (.iload 4, 2) := by decide +kernel
theorem dX8_judge_139 : decode cX8_judge 139 = .ok (.invokevirtual 160, 3) := by decide +kernel
theorem dX8_judge_142 : decode cX8_judge 142 = .ok (.iinc 3 1, 3) := by decide +kernel
theorem dX8_judge_145 : decode cX8_judge 145 = .ok (.goto (-99), 3) := by decide +kernel
theorem dX8_judge_148 : decode cX8_judge 148 = .ok (.aload_n 0, 1) := by decide +kernel
theorem dX8_judge_149 : decode cX8_judge 149 = .ok (.aload_n 0, 1) := by decide +kernel
theorem dX8_judge_150 : decode cX8_judge 150 = .ok (.invokevirtual 145, 3) := by decide +kernel
theorem dX8_judge_153 : decode cX8_judge 153 = .ok (.invokevirtual 348, 3) := by decide +kernel
theorem dX8_judge_156 : decode cX8_judge 156 = .ok (.istore_n 3, 1) := by decide +kernel
theorem dX8_judge_157 : decode cX8_judge 157 = .ok (.iload_n 2, 1) := by decide +kernel
theorem dX8_judge_158 : decode cX8_judge 158 = .ok (.ifCond .eq 11, 3) := by decide +kernel
theorem dX8_judge_161 : decode cX8_judge 161 = .ok (.aload_n 0, 1) := by decide +kernel
theorem dX8_judge_162 : decode cX8_judge 162 = .ok (.iload_n 2, 1) := by decide +kernel
theorem dX8_judge_163 : decode cX8_judge 163 = .ok (.invokevirtual 101, 3) := by decide +kernel
theorem dX8_judge_166 : decode cX8_judge 166 = .ok (.goto 4, 3) := by decide +kernel
theorem dX8_judge_169 : decode cX8_judge 169 = .ok (.iload_n 3, 1) := by decide +kernel
theorem dX8_judge_170 : decode cX8_judge 170 = .ok (.ireturn, 1) := by decide +kernel
theorem dX8_image_0 : decode cX8_image 0 = .ok (.aload_n 0, 1) := by decide +kernel
theorem dX8_image_1 : decode cX8_image 1 = .ok (.getfield 9, 3) := by decide +kernel
theorem dX8_image_4 : decode cX8_image 4 = .ok (.aload_n 0, 1) := by decide +kernel
theorem dX8_image_5 : decode cX8_image 5 = .ok (.getfield 13, 3) := by decide +kernel
theorem dX8_image_8 : decode cX8_image 8 = .ok (.invokestatic 74, 3) := by decide +kernel
theorem dX8_image_11 : decode cX8_image 11 = .ok (.aload_n 0, 1) := by decide +kernel
theorem dX8_image_12 : decode cX8_image 12 = .ok (.iconst 1, 1) := by decide +kernel
theorem dX8_image_13 : decode cX8_image 13 = .ok (.putfield 351, 3) := by decide +kernel
theorem dX8_image_16 : decode cX8_image 16 = .ok (.iconst 1, 1) := by decide +kernel
theorem dX8_image_17 : decode cX8_image 17 = .ok (.ireturn, 1) := by decide +kernel
theorem dX8_undo_0 : decode cX8_undo 0 = .ok (.aload_n 0, 1) := by decide +kernel
theorem dX8_undo_1 : decode cX8_undo 1 = .ok (.getfield 351, 3) := by decide +kernel
theorem dX8_undo_4 : decode cX8_undo 4 = .ok (.ifCond .ne 10, 3) := by decide +kernel
theorem dX8_undo_7 : decode cX8_undo 7 = .ok (.aload_n 0, 1) := by decide +kernel
theorem dX8_undo_8 : decode cX8_undo 8 = .ok (.ldc 144, 2) := by decide +kernel
theorem dX8_undo_10 : decode cX8_undo 10 = .ok (.invokevirtual 101, 3) := by decide +kernel
theorem dX8_undo_13 : decode cX8_undo 13 = .ok (.ireturn, 1) := by decide +kernel
theorem dX8_undo_14 : decode cX8_undo 14 = .ok (.aload_n 0, 1) := by decide +kernel
theorem dX8_undo_15 : decode cX8_undo 15 = .ok (.getfield 13, 3) := by decide +kernel
theorem dX8_undo_18 : decode cX8_undo 18 = .ok (.aload_n 0, 1) := by decide +kernel
theorem dX8_undo_19 : decode cX8_undo 19 = .ok (.getfield 9, 3) := by decide +kernel
theorem dX8_undo_22 : decode cX8_undo 22 = .ok (.invokestatic 74, 3) := by decide +kernel
theorem dX8_undo_25 : decode cX8_undo 25 = .ok (.aload_n 0, 1) := by decide +kernel
theorem dX8_undo_26 : decode cX8_undo 26 = .ok (.getfield 9, 3) := by decide +kernel
theorem dX8_undo_29 : decode cX8_undo 29 = .ok (.bipush 50, 2) := by decide +kernel
theorem dX8_undo_31 : decode cX8_undo 31 = .ok (.iaload, 1) := by decide +kernel
theorem dX8_undo_32 : decode cX8_undo 32 = .ok (.ireturn, 1) := by decide +kernel
theorem dX8_tear_0 : decode cX8_tear 0 = .ok (.aload_n 0, 1) := by decide +kernel
theorem dX8_tear_1 : decode cX8_tear 1 = .ok (.getfield 351, 3) := by decide +kernel
theorem dX8_tear_4 : decode cX8_tear 4 = .ok (.ifCond .eq 7, 3) := by decide +kernel
theorem dX8_tear_7 : decode cX8_tear 7 = .ok (.iconst 1, 1) := by decide +kernel
theorem dX8_tear_8 : decode cX8_tear 8 = .ok (.goto 4, 3) := by decide +kernel
theorem dX8_tear_11 : decode cX8_tear 11 = .ok (.iconst 0, 1) := by decide +kernel
theorem dX8_tear_12 : decode cX8_tear 12 = .ok (.istore_n 1, 1) := by decide +kernel
theorem dX8_tear_13 : decode cX8_tear 13 = .ok (.aload_n 0, 1) := by decide +kernel
theorem dX8_tear_14 : decode cX8_tear 14 = .ok (.iconst 0, 1) := by decide +kernel
theorem dX8_tear_15 : decode cX8_tear 15 = .ok (.putfield 351, 3) := by decide +kernel
theorem dX8_tear_18 : decode cX8_tear 18 = .ok (.iload_n 1, 1) := by decide +kernel
theorem dX8_tear_19 : decode cX8_tear 19 = .ok (.ireturn, 1) := by decide +kernel
theorem dX8_count_0 : decode cX8_count 0 = .ok (.iconst 0, 1) := by decide +kernel
theorem dX8_count_1 : decode cX8_count 1 = .ok (.istore_n 2, 1) := by decide +kernel
theorem dX8_count_2 : decode cX8_count 2 = .ok (.iload_n 1, 1) := by decide +kernel
theorem dX8_count_3 : decode cX8_count 3 = .ok (.tableswitch 179 0 7 #[45, 53, 82, 112, 121, 130, 135, 143], 45) := by decide +kernel
theorem dX8_count_48 : decode cX8_count 48 = .ok (.aload_n 0, 1) := by decide +kernel
theorem dX8_count_49 : decode cX8_count 49 = .ok (.getfield 9, 3) := by decide +kernel
theorem dX8_count_52 : decode cX8_count 52 = .ok (.bipush 8, 2) := by decide +kernel
theorem dX8_count_54 : decode cX8_count 54 = .ok (.iaload, 1) := by decide +kernel
theorem dX8_count_55 : decode cX8_count 55 = .ok (.ireturn, 1) := by decide +kernel
theorem dX8_count_56 : decode cX8_count 56 = .ok (.iconst 0, 1) := by decide +kernel
theorem dX8_count_57 : decode cX8_count 57 = .ok (.istore_n 3, 1) := by decide +kernel
theorem dX8_count_58 : decode cX8_count 58 = .ok (.iload_n 3, 1) := by decide +kernel
theorem dX8_count_59 : decode cX8_count 59 = .ok (.aload_n 0, 1) := by decide +kernel
theorem dX8_count_60 : decode cX8_count 60 = .ok (.getfield 9, 3) := by decide +kernel
theorem dX8_count_63 : decode cX8_count 63 = .ok (.bipush 8, 2) := by decide +kernel
theorem dX8_count_65 : decode cX8_count 65 = .ok (.iaload, 1) := by decide +kernel
theorem dX8_count_66 : decode cX8_count 66 = .ok (.if_icmp .ge 17, 3) := by decide +kernel
theorem dX8_count_69 : decode cX8_count 69 = .ok (.iload_n 2, 1) := by decide +kernel
theorem dX8_count_70 : decode cX8_count 70 = .ok (.aload_n 0, 1) := by decide +kernel
theorem dX8_count_71 : decode cX8_count 71 = .ok (.iload_n 3, 1) := by decide +kernel
theorem dX8_count_72 : decode cX8_count 72 = .ok (.invokevirtual 126, 3) := by decide +kernel
theorem dX8_count_75 : decode cX8_count 75 = .ok (.iadd, 1) := by decide +kernel
theorem dX8_count_76 : decode cX8_count 76 = .ok (.istore_n 2, 1) := by decide +kernel
theorem dX8_count_77 : decode cX8_count 77 = .ok (.iinc 3 1, 3) := by decide +kernel
theorem dX8_count_80 : decode cX8_count 80 = .ok (.goto (-22), 3) := by decide +kernel
theorem dX8_count_83 : decode cX8_count 83 = .ok (.iload_n 2, 1) := by decide +kernel
theorem dX8_count_84 : decode cX8_count 84 = .ok (.ireturn, 1) := by decide +kernel
theorem dX8_count_85 : decode cX8_count 85 = .ok (.iconst 0, 1) := by decide +kernel
theorem dX8_count_86 : decode cX8_count 86 = .ok (.istore_n 3, 1) := by decide +kernel
theorem dX8_count_87 : decode cX8_count 87 = .ok (.iload_n 3, 1) := by decide +kernel
theorem dX8_count_88 : decode cX8_count 88 = .ok (.aload_n 0, 1) := by decide +kernel
theorem dX8_count_89 : decode cX8_count 89 = .ok (.getfield 9, 3) := by decide +kernel
theorem dX8_count_92 : decode cX8_count 92 = .ok (.bipush 8, 2) := by decide +kernel
theorem dX8_count_94 : decode cX8_count 94 = .ok (.iaload, 1) := by decide +kernel
theorem dX8_count_95 : decode cX8_count 95 = .ok (.if_icmp .ge 18, 3) := by decide +kernel
theorem dX8_count_98 : decode cX8_count 98 = .ok (.iload_n 2, 1) := by decide +kernel
theorem dX8_count_99 : decode cX8_count 99 = .ok (.aload_n 0, 1) := by decide +kernel
theorem dX8_count_100 : decode cX8_count 100 = .ok (.iload_n 3, 1) := by decide +kernel
theorem dX8_count_101 : decode cX8_count 101 = .ok (.iconst 4, 1) := by decide +kernel
theorem dX8_count_102 : decode cX8_count 102 = .ok (.invokevirtual 113, 3) := by decide +kernel
theorem dX8_count_105 : decode cX8_count 105 = .ok (.iadd, 1) := by decide +kernel
theorem dX8_count_106 : decode cX8_count 106 = .ok (.istore_n 2, 1) := by decide +kernel
theorem dX8_count_107 : decode cX8_count 107 = .ok (.iinc 3 1, 3) := by decide +kernel
theorem dX8_count_110 : decode cX8_count 110 = .ok (.goto (-23), 3) := by decide +kernel
theorem dX8_count_113 : decode cX8_count 113 = .ok (.iload_n 2, 1) := by decide +kernel
theorem dX8_count_114 : decode cX8_count 114 = .ok (.ireturn, 1) := by decide +kernel
theorem dX8_count_115 : decode cX8_count 115 = .ok (.aload_n 0, 1) := by decide +kernel
theorem dX8_count_116 : decode cX8_count 116 = .ok (.bipush 20, 2) := by decide +kernel
theorem dX8_count_118 : decode cX8_count 118 = .ok (.bipush 12, 2) := by decide +kernel
theorem dX8_count_120 : decode cX8_count 120 = .ok (.invokevirtual 246, 3) := by decide +kernel
theorem dX8_count_123 : decode cX8_count 123 = .ok (.ireturn, 1) := by decide +kernel
theorem dX8_count_124 : decode cX8_count 124 = .ok (.aload_n 0, 1) := by decide +kernel
theorem dX8_count_125 : decode cX8_count 125 = .ok (.bipush 32, 2) := by decide +kernel
theorem dX8_count_127 : decode cX8_count 127 = .ok (.bipush 12, 2) := by decide +kernel
theorem dX8_count_129 : decode cX8_count 129 = .ok (.invokevirtual 246, 3) := by decide +kernel
theorem dX8_count_132 : decode cX8_count 132 = .ok (.ireturn, 1) := by decide +kernel
theorem dX8_count_133 : decode cX8_count 133 = .ok (.aload_n 0, 1) := by decide +kernel
theorem dX8_count_134 : decode cX8_count 134 = .ok (.getfield 252, 3) := by decide +kernel
theorem dX8_count_137 : decode cX8_count 137 = .ok (.ireturn, 1) := by decide +kernel
theorem dX8_count_138 : decode cX8_count 138 = .ok (.aload_n 0, 1) := by decide +kernel
theorem dX8_count_139 : decode cX8_count 139 = .ok (.getfield 9, 3) := by decide +kernel
theorem dX8_count_142 : decode cX8_count 142 = .ok (.bipush 9, 2) := by decide +kernel
theorem dX8_count_144 : decode cX8_count 144 = .ok (.iaload, 1) := by decide +kernel
theorem dX8_count_145 : decode cX8_count 145 = .ok (.ireturn, 1) := by decide +kernel
theorem dX8_count_146 : decode cX8_count 146 = .ok (.iconst 0, 1) := by decide +kernel
theorem dX8_count_147 : decode cX8_count 147 = .ok (.istore_n 3, 1) := by decide +kernel
theorem dX8_count_148 : decode cX8_count 148 = .ok (.iload_n 3, 1) := by decide +kernel
theorem dX8_count_149 : decode cX8_count 149 = .ok (.bipush 10, 2) := by decide +kernel
theorem dX8_count_151 : decode cX8_count 151 = .ok (.if_icmp .ge 29, 3) := by decide +kernel
theorem dX8_count_154 : decode cX8_count 154 = .ok (.iload_n 2, 1) := by decide +kernel
theorem dX8_count_155 : decode cX8_count 155 = .ok (.aload_n 0, 1) := by decide +kernel
theorem dX8_count_156 : decode cX8_count 156 = .ok (.getfield 9, 3) := by decide +kernel
theorem dX8_count_159 : decode cX8_count 159 = .ok (.bipush 10, 2) := by decide +kernel
theorem dX8_count_161 : decode cX8_count 161 = .ok (.iload_n 3, 1) := by decide +kernel
theorem dX8_count_162 : decode cX8_count 162 = .ok (.iadd, 1) := by decide +kernel
theorem dX8_count_163 : decode cX8_count 163 = .ok (.iaload, 1) := by decide +kernel
theorem dX8_count_164 : decode cX8_count 164 = .ok (.ifCond .ge 7, 3) := by decide +kernel
theorem dX8_count_167 : decode cX8_count 167 = .ok (.iconst 0, 1) := by decide +kernel
theorem dX8_count_168 : decode cX8_count 168 = .ok (.goto 4, 3) := by decide +kernel
theorem dX8_count_171 : decode cX8_count 171 = .ok (.iconst 1, 1) := by decide +kernel
theorem dX8_count_172 : decode cX8_count 172 = .ok (.iadd, 1) := by decide +kernel
theorem dX8_count_173 : decode cX8_count 173 = .ok (.istore_n 2, 1) := by decide +kernel
theorem dX8_count_174 : decode cX8_count 174 = .ok (.iinc 3 1, 3) := by decide +kernel
theorem dX8_count_177 : decode cX8_count 177 = .ok (.goto (-29), 3) := by decide +kernel
theorem dX8_count_180 : decode cX8_count 180 = .ok (.iload_n 2, 1) := by decide +kernel
theorem dX8_count_181 : decode cX8_count 181 = .ok (.ireturn, 1) := by decide +kernel
theorem dX8_count_182 : decode cX8_count 182 = .ok (.aload_n 0, 1) := by decide +kernel
theorem dX8_count_183 : decode cX8_count 183 = .ok (.ldc 73, 2) := by decide +kernel
theorem dX8_count_185 : decode cX8_count 185 = .ok (.invokevirtual 101, 3) := by decide +kernel
theorem dX8_count_188 : decode cX8_count 188 = .ok (.ireturn, 1) := by decide +kernel
theorem dX8_status_0 : decode cX8_status 0 = .ok (.iload_n 1, 1) := by decide +kernel
theorem dX8_status_1 : decode cX8_status 1 = .ok (.iconst (-1), 1) := by decide +kernel
theorem dX8_status_2 : decode cX8_status 2 = .ok (.bipush 6, 2) := by decide +kernel
theorem dX8_status_4 : decode cX8_status 4 = .ok (.invokestatic 78, 3) := by decide +kernel
theorem dX8_status_7 : decode cX8_status 7 = .ok (.ifCond .eq 14, 3) := by decide +kernel
theorem dX8_status_10 : decode cX8_status 10 = .ok (.aload_n 0, 1) := by decide +kernel
theorem dX8_status_11 : decode cX8_status 11 = .ok (.getfield 19, 3) := by decide +kernel
theorem dX8_status_14 : decode cX8_status 14 = .ok (.iload_n 1, 1) := by decide +kernel
theorem dX8_status_15 : decode cX8_status 15 = .ok (.iconst 1, 1) := by decide +kernel
theorem dX8_status_16 : decode cX8_status 16 = .ok (.iadd, 1) := by decide +kernel
theorem dX8_status_17 : decode cX8_status 17 = .ok (.iaload, 1) := by decide +kernel
theorem dX8_status_18 : decode cX8_status 18 = .ok (.goto 9, 3) := by decide +kernel
theorem dX8_status_21 : decode cX8_status 21 = .ok (.aload_n 0, 1) := by decide +kernel
theorem dX8_status_22 : decode cX8_status 22 = .ok (.ldc 73, 2) := by decide +kernel
theorem dX8_status_24 : decode cX8_status 24 = .ok (.invokevirtual 101, 3) := by decide +kernel
theorem dX8_status_27 : decode cX8_status 27 = .ok (.ireturn, 1) := by decide +kernel
theorem dJ6_bitCount_0f7a4_0 : decode cJ6_bitCount_0f7a4 0 = .ok (.iload_n 0, 1) := by decide +kernel
theorem dJ6_bitCount_0f7a4_1 : decode cJ6_bitCount_0f7a4 1 = .ok (.iload_n 0, 1) := by decide +kernel
theorem dJ6_bitCount_0f7a4_2 : decode cJ6_bitCount_0f7a4 2 = .ok (.iconst 1, 1) := by decide +kernel
theorem dJ6_bitCount_0f7a4_3 : decode cJ6_bitCount_0f7a4 3 = .ok (.iushr, 1) := by decide +kernel
theorem dJ6_bitCount_0f7a4_4 : decode cJ6_bitCount_0f7a4 4 = .ok (.ldc_w 265, 3) := by decide +kernel
theorem dJ6_bitCount_0f7a4_7 : decode cJ6_bitCount_0f7a4 7 = .ok (.iand, 1) := by decide +kernel
theorem dJ6_bitCount_0f7a4_8 : decode cJ6_bitCount_0f7a4 8 = .ok (.isub, 1) := by decide +kernel
theorem dJ6_bitCount_0f7a4_9 : decode cJ6_bitCount_0f7a4 9 = .ok (.istore_n 0, 1) := by decide +kernel
theorem dJ6_bitCount_0f7a4_10 : decode cJ6_bitCount_0f7a4 10 = .ok (.iload_n 0, 1) := by decide +kernel
theorem dJ6_bitCount_0f7a4_11 : decode cJ6_bitCount_0f7a4 11 = .ok (.ldc_w 266, 3) := by decide +kernel
theorem dJ6_bitCount_0f7a4_14 : decode cJ6_bitCount_0f7a4 14 = .ok (.iand, 1) := by decide +kernel
theorem dJ6_bitCount_0f7a4_15 : decode cJ6_bitCount_0f7a4 15 = .ok (.iload_n 0, 1) := by decide +kernel
theorem dJ6_bitCount_0f7a4_16 : decode cJ6_bitCount_0f7a4 16 = .ok (.iconst 2, 1) := by decide +kernel
theorem dJ6_bitCount_0f7a4_17 : decode cJ6_bitCount_0f7a4 17 = .ok (.iushr, 1) := by decide +kernel
theorem dJ6_bitCount_0f7a4_18 : decode cJ6_bitCount_0f7a4 18 = .ok (.ldc_w 266, 3) := by decide +kernel
theorem dJ6_bitCount_0f7a4_21 : decode cJ6_bitCount_0f7a4 21 = .ok (.iand, 1) := by decide +kernel
theorem dJ6_bitCount_0f7a4_22 : decode cJ6_bitCount_0f7a4 22 = .ok (.iadd, 1) := by decide +kernel
theorem dJ6_bitCount_0f7a4_23 : decode cJ6_bitCount_0f7a4 23 = .ok (.istore_n 0, 1) := by decide +kernel
theorem dJ6_bitCount_0f7a4_24 : decode cJ6_bitCount_0f7a4 24 = .ok (.iload_n 0, 1) := by decide +kernel
theorem dJ6_bitCount_0f7a4_25 : decode cJ6_bitCount_0f7a4 25 = .ok (.iload_n 0, 1) := by decide +kernel
theorem dJ6_bitCount_0f7a4_26 : decode cJ6_bitCount_0f7a4 26 = .ok (.iconst 4, 1) := by decide +kernel
theorem dJ6_bitCount_0f7a4_27 : decode cJ6_bitCount_0f7a4 27 = .ok (.iushr, 1) := by decide +kernel
theorem dJ6_bitCount_0f7a4_28 : decode cJ6_bitCount_0f7a4 28 = .ok (.iadd, 1) := by decide +kernel
theorem dJ6_bitCount_0f7a4_29 : decode cJ6_bitCount_0f7a4 29 = .ok (.ldc_w 267, 3) := by decide +kernel
theorem dJ6_bitCount_0f7a4_32 : decode cJ6_bitCount_0f7a4 32 = .ok (.iand, 1) := by decide +kernel
theorem dJ6_bitCount_0f7a4_33 : decode cJ6_bitCount_0f7a4 33 = .ok (.istore_n 0, 1) := by decide +kernel
theorem dJ6_bitCount_0f7a4_34 : decode cJ6_bitCount_0f7a4 34 = .ok (.iload_n 0, 1) := by decide +kernel
theorem dJ6_bitCount_0f7a4_35 : decode cJ6_bitCount_0f7a4 35 = .ok (.iload_n 0, 1) := by decide +kernel
theorem dJ6_bitCount_0f7a4_36 : decode cJ6_bitCount_0f7a4 36 = .ok (.bipush 8, 2) := by decide +kernel
theorem dJ6_bitCount_0f7a4_38 : decode cJ6_bitCount_0f7a4 38 = .ok (.iushr, 1) := by decide +kernel
theorem dJ6_bitCount_0f7a4_39 : decode cJ6_bitCount_0f7a4 39 = .ok (.iadd, 1) := by decide +kernel
theorem dJ6_bitCount_0f7a4_40 : decode cJ6_bitCount_0f7a4 40 = .ok (.istore_n 0, 1) := by decide +kernel
theorem dJ6_bitCount_0f7a4_41 : decode cJ6_bitCount_0f7a4 41 = .ok (.iload_n 0, 1) := by decide +kernel
theorem dJ6_bitCount_0f7a4_42 : decode cJ6_bitCount_0f7a4 42 = .ok (.iload_n 0, 1) := by decide +kernel
theorem dJ6_bitCount_0f7a4_43 : decode cJ6_bitCount_0f7a4 43 = .ok (.bipush 16, 2) := by decide +kernel
theorem dJ6_bitCount_0f7a4_45 : decode cJ6_bitCount_0f7a4 45 = .ok (.iushr, 1) := by decide +kernel
theorem dJ6_bitCount_0f7a4_46 : decode cJ6_bitCount_0f7a4 46 = .ok (.iadd, 1) := by decide +kernel
theorem dJ6_bitCount_0f7a4_47 : decode cJ6_bitCount_0f7a4 47 = .ok (.istore_n 0, 1) := by decide +kernel
theorem dJ6_bitCount_0f7a4_48 : decode cJ6_bitCount_0f7a4 48 = .ok (.iload_n 0, 1) := by decide +kernel
theorem dJ6_bitCount_0f7a4_49 : decode cJ6_bitCount_0f7a4 49 = .ok (.bipush 63, 2) := by decide +kernel
theorem dJ6_bitCount_0f7a4_51 : decode cJ6_bitCount_0f7a4 51 = .ok (.iand, 1) := by decide +kernel
theorem dJ6_bitCount_0f7a4_52 : decode cJ6_bitCount_0f7a4 52 = .ok (.ireturn, 1) := by decide +kernel
theorem dJ9_max_7cf53_0 : decode cJ9_max_7cf53 0 = .ok (.iload_n 0, 1) := by decide +kernel
theorem dJ9_max_7cf53_1 : decode cJ9_max_7cf53 1 = .ok (.iload_n 1, 1) := by decide +kernel
theorem dJ9_max_7cf53_2 : decode cJ9_max_7cf53 2 = .ok (.if_icmp .lt 7, 3) := by decide +kernel
theorem dJ9_max_7cf53_5 : decode cJ9_max_7cf53 5 = .ok (.iload_n 0, 1) := by decide +kernel
theorem dJ9_max_7cf53_6 : decode cJ9_max_7cf53 6 = .ok (.goto 4, 3) := by decide +kernel
theorem dJ9_max_7cf53_9 : decode cJ9_max_7cf53 9 = .ok (.iload_n 1, 1) := by decide +kernel
theorem dJ9_max_7cf53_10 : decode cJ9_max_7cf53 10 = .ok (.ireturn, 1) := by decide +kernel
theorem dJ9_min_7cf53_0 : decode cJ9_min_7cf53 0 = .ok (.iload_n 0, 1) := by decide +kernel
theorem dJ9_min_7cf53_1 : decode cJ9_min_7cf53 1 = .ok (.iload_n 1, 1) := by decide +kernel
theorem dJ9_min_7cf53_2 : decode cJ9_min_7cf53 2 = .ok (.if_icmp .gt 7, 3) := by decide +kernel
theorem dJ9_min_7cf53_5 : decode cJ9_min_7cf53 5 = .ok (.iload_n 0, 1) := by decide +kernel
theorem dJ9_min_7cf53_6 : decode cJ9_min_7cf53 6 = .ok (.goto 4, 3) := by decide +kernel
theorem dJ9_min_7cf53_9 : decode cJ9_min_7cf53 9 = .ok (.iload_n 1, 1) := by decide +kernel
theorem dJ9_min_7cf53_10 : decode cJ9_min_7cf53 10 = .ok (.ireturn, 1) := by decide +kernel
theorem dJ7_fill_53178_0 : decode cJ7_fill_53178 0 = .ok (.iconst 0, 1) := by decide +kernel
theorem dJ7_fill_53178_1 : decode cJ7_fill_53178 1 = .ok (.istore_n 2, 1) := by decide +kernel
theorem dJ7_fill_53178_2 : decode cJ7_fill_53178 2 = .ok (.aload_n 0, 1) := by decide +kernel
theorem dJ7_fill_53178_3 : decode cJ7_fill_53178 3 = .ok (.arraylength, 1) := by decide +kernel
theorem dJ7_fill_53178_4 : decode cJ7_fill_53178 4 = .ok (.istore_n 3, 1) := by decide +kernel
theorem dJ7_fill_53178_5 : decode cJ7_fill_53178 5 = .ok (.iload_n 2, 1) := by decide +kernel
theorem dJ7_fill_53178_6 : decode cJ7_fill_53178 6 = .ok (.iload_n 3, 1) := by decide +kernel
theorem dJ7_fill_53178_7 : decode cJ7_fill_53178 7 = .ok (.if_icmp .ge 13, 3) := by decide +kernel
theorem dJ7_fill_53178_10 : decode cJ7_fill_53178 10 = .ok (.aload_n 0, 1) := by decide +kernel
theorem dJ7_fill_53178_11 : decode cJ7_fill_53178 11 = .ok (.iload_n 2, 1) := by decide +kernel
theorem dJ7_fill_53178_12 : decode cJ7_fill_53178 12 = .ok (.iload_n 1, 1) := by decide +kernel
theorem dJ7_fill_53178_13 : decode cJ7_fill_53178 13 = .ok (.iastore, 1) := by decide +kernel
theorem dJ7_fill_53178_14 : decode cJ7_fill_53178 14 = .ok (.iinc 2 1, 3) := by decide +kernel
theorem dJ7_fill_53178_17 : decode cJ7_fill_53178 17 = .ok (.goto (-12), 3) := by decide +kernel
theorem dJ7_fill_53178_20 : decode cJ7_fill_53178 20 = .ok (.return_, 1) := by decide +kernel
theorem dL_law_0 : decode cL_law 0 = .ok (.new 7, 3) := by decide +kernel
theorem dL_law_3 : decode cL_law 3 = .ok (.dup, 1) := by decide +kernel
theorem dL_law_4 : decode cL_law 4 = .ok (.invokespecial 9, 3) := by decide +kernel
theorem dL_law_7 : decode cL_law 7 = .ok (.astore_n 1, 1) := by decide +kernel
theorem dL_law_8 : decode cL_law 8 = .ok (.new 10, 3) := by decide +kernel
theorem dL_law_11 : decode cL_law 11 = .ok (.dup, 1) := by decide +kernel
theorem dL_law_12 : decode cL_law 12 = .ok (.invokespecial 12, 3) := by decide +kernel
theorem dL_law_15 : decode cL_law 15 = .ok (.astore_n 2, 1) := by decide +kernel
theorem dL_law_16 : decode cL_law 16 = .ok (.iconst 0, 1) := by decide +kernel
theorem dL_law_17 : decode cL_law 17 = .ok (.istore_n 3, 1) := by decide +kernel
theorem dL_law_18 : decode cL_law 18 = .ok (.iload_n 3, 1) := by decide +kernel
theorem dL_law_19 : decode cL_law 19 = .ok (.aload_n 0, 1) := by decide +kernel
theorem dL_law_20 : decode cL_law 20 = .ok (.arraylength, 1) := by decide +kernel
theorem dL_law_21 : decode cL_law 21 = .ok (.bipush 6, 2) := by decide +kernel
theorem dL_law_23 : decode cL_law 23 = .ok (.isub, 1) := by decide +kernel
theorem dL_law_24 : decode cL_law 24 = .ok (.if_icmp .gt 1426, 3) := by decide +kernel
theorem dL_law_27 : decode cL_law 27 = .ok (.aload_n 0, 1) := by decide +kernel
theorem dL_law_28 : decode cL_law 28 = .ok (.iload_n 3, 1) := by decide +kernel
theorem dL_law_29 : decode cL_law 29 = .ok (.iaload, 1) := by decide +kernel
theorem dL_law_30 : decode cL_law 30 = .ok (.bipush 63, 2) := by decide +kernel
theorem dL_law_32 : decode cL_law 32 = .ok (.iand, 1) := by decide +kernel
theorem dL_law_33 : decode cL_law 33 = .ok (.tableswitch 1411 0 47 #[207, 260, 293, 336, 369, 412, 445, 468, 501, 534, 557, 580, 603, 626, 639, 672, 695, 728, 751, 774, 787, 810, 823, 836, 849, 862, 875, 888, 911, 924, 947, 970, 983, 1006, 1039, 1052, 1065, 1098, 1131, 1174, 1217, 1280, 1303, 1326, 1339, 1352, 1365, 1388], 207) := by decide +kernel
theorem dL_law_240 : decode cL_law 240 = .ok (.aload_n 1, 1) := by decide +kernel
theorem dL_law_241 : decode cL_law 241 = .ok (.aload_n 0, 1) := by decide +kernel
theorem dL_law_242 : decode cL_law 242 = .ok (.iload_n 3, 1) := by decide +kernel
theorem dL_law_243 : decode cL_law 243 = .ok (.iconst 1, 1) := by decide +kernel
theorem dL_law_244 : decode cL_law 244 = .ok (.iadd, 1) := by decide +kernel
theorem dL_law_245 : decode cL_law 245 = .ok (.iaload, 1) := by decide +kernel
theorem dL_law_246 : decode cL_law 246 = .ok (.aload_n 0, 1) := by decide +kernel
theorem dL_law_247 : decode cL_law 247 = .ok (.iload_n 3, 1) := by decide +kernel
theorem dL_law_248 : decode cL_law 248 = .ok (.iconst 2, 1) := by decide +kernel
theorem dL_law_249 : decode cL_law 249 = .ok (.iadd, 1) := by decide +kernel
theorem dL_law_250 : decode cL_law 250 = .ok (.iaload, 1) := by decide +kernel
theorem dL_law_251 : decode cL_law 251 = .ok (.aload_n 0, 1) := by decide +kernel
theorem dL_law_252 : decode cL_law 252 = .ok (.iload_n 3, 1) := by decide +kernel
theorem dL_law_253 : decode cL_law 253 = .ok (.iconst 3, 1) := by decide +kernel
theorem dL_law_254 : decode cL_law 254 = .ok (.iadd, 1) := by decide +kernel
theorem dL_law_255 : decode cL_law 255 = .ok (.iaload, 1) := by decide +kernel
theorem dL_law_256 : decode cL_law 256 = .ok (.aload_n 0, 1) := by decide +kernel
theorem dL_law_257 : decode cL_law 257 = .ok (.iload_n 3, 1) := by decide +kernel
theorem dL_law_258 : decode cL_law 258 = .ok (.iconst 4, 1) := by decide +kernel
theorem dL_law_259 : decode cL_law 259 = .ok (.iadd, 1) := by decide +kernel
theorem dL_law_260 : decode cL_law 260 = .ok (.iaload, 1) := by decide +kernel
theorem dL_law_261 : decode cL_law 261 = .ok (.invokevirtual 13, 3) := by decide +kernel
theorem dL_law_264 : decode cL_law 264 = .ok (.aload_n 2, 1) := by decide +kernel
theorem dL_law_265 : decode cL_law 265 = .ok (.aload_n 0, 1) := by decide +kernel
theorem dL_law_266 : decode cL_law 266 = .ok (.iload_n 3, 1) := by decide +kernel
theorem dL_law_267 : decode cL_law 267 = .ok (.iconst 1, 1) := by decide +kernel
theorem dL_law_268 : decode cL_law 268 = .ok (.iadd, 1) := by decide +kernel
theorem dL_law_269 : decode cL_law 269 = .ok (.iaload, 1) := by decide +kernel
theorem dL_law_270 : decode cL_law 270 = .ok (.aload_n 0, 1) := by decide +kernel
theorem dL_law_271 : decode cL_law 271 = .ok (.iload_n 3, 1) := by decide +kernel
theorem dL_law_272 : decode cL_law 272 = .ok (.iconst 2, 1) := by decide +kernel
theorem dL_law_273 : decode cL_law 273 = .ok (.iadd, 1) := by decide +kernel
theorem dL_law_274 : decode cL_law 274 = .ok (.iaload, 1) := by decide +kernel
theorem dL_law_275 : decode cL_law 275 = .ok (.aload_n 0, 1) := by decide +kernel
theorem dL_law_276 : decode cL_law 276 = .ok (.iload_n 3, 1) := by decide +kernel
theorem dL_law_277 : decode cL_law 277 = .ok (.iconst 3, 1) := by decide +kernel
theorem dL_law_278 : decode cL_law 278 = .ok (.iadd, 1) := by decide +kernel
theorem dL_law_279 : decode cL_law 279 = .ok (.iaload, 1) := by decide +kernel
theorem dL_law_280 : decode cL_law 280 = .ok (.aload_n 0, 1) := by decide +kernel
theorem dL_law_281 : decode cL_law 281 = .ok (.iload_n 3, 1) := by decide +kernel
theorem dL_law_282 : decode cL_law 282 = .ok (.iconst 4, 1) := by decide +kernel
theorem dL_law_283 : decode cL_law 283 = .ok (.iadd, 1) := by decide +kernel
theorem dL_law_284 : decode cL_law 284 = .ok (.iaload, 1) := by decide +kernel
theorem dL_law_285 : decode cL_law 285 = .ok (.invokevirtual 17, 3) := by decide +kernel
theorem dL_law_288 : decode cL_law 288 = .ok (.if_icmp .eq 1156, 3) := by decide +kernel
theorem dL_law_291 : decode cL_law 291 = .ok (.iconst 0, 1) := by decide +kernel
theorem dL_law_292 : decode cL_law 292 = .ok (.ireturn, 1) := by decide +kernel
theorem dL_law_293 : decode cL_law 293 = .ok (.aload_n 1, 1) := by decide +kernel
theorem dL_law_294 : decode cL_law 294 = .ok (.aload_n 0, 1) := by decide +kernel
theorem dL_law_295 : decode cL_law 295 = .ok (.iload_n 3, 1) := by decide +kernel
theorem dL_law_296 : decode cL_law 296 = .ok (.iconst 1, 1) := by decide +kernel
theorem dL_law_297 : decode cL_law 297 = .ok (.iadd, 1) := by decide +kernel
theorem dL_law_298 : decode cL_law 298 = .ok (.iaload, 1) := by decide +kernel
theorem dL_law_299 : decode cL_law 299 = .ok (.aload_n 0, 1) := by decide +kernel
theorem dL_law_300 : decode cL_law 300 = .ok (.iload_n 3, 1) := by decide +kernel
theorem dL_law_301 : decode cL_law 301 = .ok (.iconst 2, 1) := by decide +kernel
theorem dL_law_302 : decode cL_law 302 = .ok (.iadd, 1) := by decide +kernel
theorem dL_law_303 : decode cL_law 303 = .ok (.iaload, 1) := by decide +kernel
theorem dL_law_304 : decode cL_law 304 = .ok (.invokevirtual 18, 3) := by decide +kernel
theorem dL_law_307 : decode cL_law 307 = .ok (.aload_n 2, 1) := by decide +kernel
theorem dL_law_308 : decode cL_law 308 = .ok (.aload_n 0, 1) := by decide +kernel
theorem dL_law_309 : decode cL_law 309 = .ok (.iload_n 3, 1) := by decide +kernel
theorem dL_law_310 : decode cL_law 310 = .ok (.iconst 1, 1) := by decide +kernel
theorem dL_law_311 : decode cL_law 311 = .ok (.iadd, 1) := by decide +kernel
theorem dL_law_312 : decode cL_law 312 = .ok (.iaload, 1) := by decide +kernel
theorem dL_law_313 : decode cL_law 313 = .ok (.aload_n 0, 1) := by decide +kernel
theorem dL_law_314 : decode cL_law 314 = .ok (.iload_n 3, 1) := by decide +kernel
theorem dL_law_315 : decode cL_law 315 = .ok (.iconst 2, 1) := by decide +kernel
theorem dL_law_316 : decode cL_law 316 = .ok (.iadd, 1) := by decide +kernel
theorem dL_law_317 : decode cL_law 317 = .ok (.iaload, 1) := by decide +kernel
theorem dL_law_318 : decode cL_law 318 = .ok (.invokevirtual 22, 3) := by decide +kernel
theorem dL_law_321 : decode cL_law 321 = .ok (.if_icmp .eq 1123, 3) := by decide +kernel
theorem dL_law_324 : decode cL_law 324 = .ok (.iconst 0, 1) := by decide +kernel
theorem dL_law_325 : decode cL_law 325 = .ok (.ireturn, 1) := by decide +kernel
theorem dL_law_326 : decode cL_law 326 = .ok (.aload_n 1, 1) := by decide +kernel
theorem dL_law_327 : decode cL_law 327 = .ok (.aload_n 0, 1) := by decide +kernel
theorem dL_law_328 : decode cL_law 328 = .ok (.iload_n 3, 1) := by decide +kernel
theorem dL_law_329 : decode cL_law 329 = .ok (.iconst 1, 1) := by decide +kernel
theorem dL_law_330 : decode cL_law 330 = .ok (.iadd, 1) := by decide +kernel
theorem dL_law_331 : decode cL_law 331 = .ok (.iaload, 1) := by decide +kernel
theorem dL_law_332 : decode cL_law 332 = .ok (.aload_n 0, 1) := by decide +kernel
theorem dL_law_333 : decode cL_law 333 = .ok (.iload_n 3, 1) := by decide +kernel
theorem dL_law_334 : decode cL_law 334 = .ok (.iconst 2, 1) := by decide +kernel
theorem dL_law_335 : decode cL_law 335 = .ok (.iadd, 1) := by decide +kernel
theorem dL_law_336 : decode cL_law 336 = .ok (.iaload, 1) := by decide +kernel
theorem dL_law_337 : decode cL_law 337 = .ok (.aload_n 0, 1) := by decide +kernel
theorem dL_law_338 : decode cL_law 338 = .ok (.iload_n 3, 1) := by decide +kernel
theorem dL_law_339 : decode cL_law 339 = .ok (.iconst 3, 1) := by decide +kernel
theorem dL_law_340 : decode cL_law 340 = .ok (.iadd, 1) := by decide +kernel
theorem dL_law_341 : decode cL_law 341 = .ok (.iaload, 1) := by decide +kernel
theorem dL_law_342 : decode cL_law 342 = .ok (.invokevirtual 23, 3) := by decide +kernel
theorem dL_law_345 : decode cL_law 345 = .ok (.aload_n 2, 1) := by decide +kernel
theorem dL_law_346 : decode cL_law 346 = .ok (.aload_n 0, 1) := by decide +kernel
theorem dL_law_347 : decode cL_law 347 = .ok (.iload_n 3, 1) := by decide +kernel
theorem dL_law_348 : decode cL_law 348 = .ok (.iconst 1, 1) := by decide +kernel
theorem dL_law_349 : decode cL_law 349 = .ok (.iadd, 1) := by decide +kernel
theorem dL_law_350 : decode cL_law 350 = .ok (.iaload, 1) := by decide +kernel
theorem dL_law_351 : decode cL_law 351 = .ok (.aload_n 0, 1) := by decide +kernel
theorem dL_law_352 : decode cL_law 352 = .ok (.iload_n 3, 1) := by decide +kernel
theorem dL_law_353 : decode cL_law 353 = .ok (.iconst 2, 1) := by decide +kernel
theorem dL_law_354 : decode cL_law 354 = .ok (.iadd, 1) := by decide +kernel
theorem dL_law_355 : decode cL_law 355 = .ok (.iaload, 1) := by decide +kernel
theorem dL_law_356 : decode cL_law 356 = .ok (.aload_n 0, 1) := by decide +kernel
theorem dL_law_357 : decode cL_law 357 = .ok (.iload_n 3, 1) := by decide +kernel
theorem dL_law_358 : decode cL_law 358 = .ok (.iconst 3, 1) := by decide +kernel
theorem dL_law_359 : decode cL_law 359 = .ok (.iadd, 1) := by decide +kernel
theorem dL_law_360 : decode cL_law 360 = .ok (.iaload, 1) := by decide +kernel
theorem dL_law_361 : decode cL_law 361 = .ok (.invokevirtual 27, 3) := by decide +kernel
theorem dL_law_364 : decode cL_law 364 = .ok (.if_icmp .eq 1080, 3) := by decide +kernel
theorem dL_law_367 : decode cL_law 367 = .ok (.iconst 0, 1) := by decide +kernel
theorem dL_law_368 : decode cL_law 368 = .ok (.ireturn, 1) := by decide +kernel
theorem dL_law_369 : decode cL_law 369 = .ok (.aload_n 1, 1) := by decide +kernel
theorem dL_law_370 : decode cL_law 370 = .ok (.aload_n 0, 1) := by decide +kernel
theorem dL_law_371 : decode cL_law 371 = .ok (.iload_n 3, 1) := by decide +kernel
theorem dL_law_372 : decode cL_law 372 = .ok (.iconst 1, 1) := by decide +kernel
theorem dL_law_373 : decode cL_law 373 = .ok (.iadd, 1) := by decide +kernel
theorem dL_law_374 : decode cL_law 374 = .ok (.iaload, 1) := by decide +kernel
theorem dL_law_375 : decode cL_law 375 = .ok (.aload_n 0, 1) := by decide +kernel
theorem dL_law_376 : decode cL_law 376 = .ok (.iload_n 3, 1) := by decide +kernel
theorem dL_law_377 : decode cL_law 377 = .ok (.iconst 2, 1) := by decide +kernel
theorem dL_law_378 : decode cL_law 378 = .ok (.iadd, 1) := by decide +kernel
theorem dL_law_379 : decode cL_law 379 = .ok (.iaload, 1) := by decide +kernel
theorem dL_law_380 : decode cL_law 380 = .ok (.invokevirtual 28, 3) := by decide +kernel
theorem dL_law_383 : decode cL_law 383 = .ok (.aload_n 2, 1) := by decide +kernel
theorem dL_law_384 : decode cL_law 384 = .ok (.aload_n 0, 1) := by decide +kernel
theorem dL_law_385 : decode cL_law 385 = .ok (.iload_n 3, 1) := by decide +kernel
theorem dL_law_386 : decode cL_law 386 = .ok (.iconst 1, 1) := by decide +kernel
theorem dL_law_387 : decode cL_law 387 = .ok (.iadd, 1) := by decide +kernel
theorem dL_law_388 : decode cL_law 388 = .ok (.iaload, 1) := by decide +kernel
theorem dL_law_389 : decode cL_law 389 = .ok (.aload_n 0, 1) := by decide +kernel
theorem dL_law_390 : decode cL_law 390 = .ok (.iload_n 3, 1) := by decide +kernel
theorem dL_law_391 : decode cL_law 391 = .ok (.iconst 2, 1) := by decide +kernel
theorem dL_law_392 : decode cL_law 392 = .ok (.iadd, 1) := by decide +kernel
theorem dL_law_393 : decode cL_law 393 = .ok (.iaload, 1) := by decide +kernel
theorem dL_law_394 : decode cL_law 394 = .ok (.invokevirtual 31, 3) := by decide +kernel
theorem dL_law_397 : decode cL_law 397 = .ok (.if_icmp .eq 1047, 3) := by decide +kernel
theorem dL_law_400 : decode cL_law 400 = .ok (.iconst 0, 1) := by decide +kernel
theorem dL_law_401 : decode cL_law 401 = .ok (.ireturn, 1) := by decide +kernel
theorem dL_law_402 : decode cL_law 402 = .ok (.aload_n 1, 1) := by decide +kernel
theorem dL_law_403 : decode cL_law 403 = .ok (.aload_n 0, 1) := by decide +kernel
theorem dL_law_404 : decode cL_law 404 = .ok (.iload_n 3, 1) := by decide +kernel
theorem dL_law_405 : decode cL_law 405 = .ok (.iconst 1, 1) := by decide +kernel
theorem dL_law_406 : decode cL_law 406 = .ok (.iadd, 1) := by decide +kernel
theorem dL_law_407 : decode cL_law 407 = .ok (.iaload, 1) := by decide +kernel
theorem dL_law_408 : decode cL_law 408 = .ok (.aload_n 0, 1) := by decide +kernel
theorem dL_law_409 : decode cL_law 409 = .ok (.iload_n 3, 1) := by decide +kernel
theorem dL_law_410 : decode cL_law 410 = .ok (.iconst 2, 1) := by decide +kernel
theorem dL_law_411 : decode cL_law 411 = .ok (.iadd, 1) := by decide +kernel
theorem dL_law_412 : decode cL_law 412 = .ok (.iaload, 1) := by decide +kernel
theorem dL_law_413 : decode cL_law 413 = .ok (.aload_n 0, 1) := by decide +kernel
theorem dL_law_414 : decode cL_law 414 = .ok (.iload_n 3, 1) := by decide +kernel
theorem dL_law_415 : decode cL_law 415 = .ok (.iconst 3, 1) := by decide +kernel
theorem dL_law_416 : decode cL_law 416 = .ok (.iadd, 1) := by decide +kernel
theorem dL_law_417 : decode cL_law 417 = .ok (.iaload, 1) := by decide +kernel
theorem dL_law_418 : decode cL_law 418 = .ok (.invokevirtual 32, 3) := by decide +kernel
theorem dL_law_421 : decode cL_law 421 = .ok (.aload_n 2, 1) := by decide +kernel
theorem dL_law_422 : decode cL_law 422 = .ok (.aload_n 0, 1) := by decide +kernel
theorem dL_law_423 : decode cL_law 423 = .ok (.iload_n 3, 1) := by decide +kernel
theorem dL_law_424 : decode cL_law 424 = .ok (.iconst 1, 1) := by decide +kernel
theorem dL_law_425 : decode cL_law 425 = .ok (.iadd, 1) := by decide +kernel
theorem dL_law_426 : decode cL_law 426 = .ok (.iaload, 1) := by decide +kernel
theorem dL_law_427 : decode cL_law 427 = .ok (.aload_n 0, 1) := by decide +kernel
theorem dL_law_428 : decode cL_law 428 = .ok (.iload_n 3, 1) := by decide +kernel
theorem dL_law_429 : decode cL_law 429 = .ok (.iconst 2, 1) := by decide +kernel
theorem dL_law_430 : decode cL_law 430 = .ok (.iadd, 1) := by decide +kernel
theorem dL_law_431 : decode cL_law 431 = .ok (.iaload, 1) := by decide +kernel
theorem dL_law_432 : decode cL_law 432 = .ok (.aload_n 0, 1) := by decide +kernel
theorem dL_law_433 : decode cL_law 433 = .ok (.iload_n 3, 1) := by decide +kernel
theorem dL_law_434 : decode cL_law 434 = .ok (.iconst 3, 1) := by decide +kernel
theorem dL_law_435 : decode cL_law 435 = .ok (.iadd, 1) := by decide +kernel
theorem dL_law_436 : decode cL_law 436 = .ok (.iaload, 1) := by decide +kernel
theorem dL_law_437 : decode cL_law 437 = .ok (.invokevirtual 35, 3) := by decide +kernel
theorem dL_law_440 : decode cL_law 440 = .ok (.if_icmp .eq 1004, 3) := by decide +kernel
theorem dL_law_443 : decode cL_law 443 = .ok (.iconst 0, 1) := by decide +kernel
theorem dL_law_444 : decode cL_law 444 = .ok (.ireturn, 1) := by decide +kernel
theorem dL_law_445 : decode cL_law 445 = .ok (.aload_n 1, 1) := by decide +kernel
theorem dL_law_446 : decode cL_law 446 = .ok (.aload_n 0, 1) := by decide +kernel
theorem dL_law_447 : decode cL_law 447 = .ok (.iload_n 3, 1) := by decide +kernel
theorem dL_law_448 : decode cL_law 448 = .ok (.iconst 1, 1) := by decide +kernel
theorem dL_law_449 : decode cL_law 449 = .ok (.iadd, 1) := by decide +kernel
theorem dL_law_450 : decode cL_law 450 = .ok (.iaload, 1) := by decide +kernel
theorem dL_law_451 : decode cL_law 451 = .ok (.aload_n 0, 1) := by decide +kernel
theorem dL_law_452 : decode cL_law 452 = .ok (.iload_n 3, 1) := by decide +kernel
theorem dL_law_453 : decode cL_law 453 = .ok (.iconst 2, 1) := by decide +kernel
theorem dL_law_454 : decode cL_law 454 = .ok (.iadd, 1) := by decide +kernel
theorem dL_law_455 : decode cL_law 455 = .ok (.iaload, 1) := by decide +kernel
theorem dL_law_456 : decode cL_law 456 = .ok (.invokevirtual 36, 3) := by decide +kernel
theorem dL_law_459 : decode cL_law 459 = .ok (.aload_n 2, 1) := by decide +kernel
theorem dL_law_460 : decode cL_law 460 = .ok (.aload_n 0, 1) := by decide +kernel
theorem dL_law_461 : decode cL_law 461 = .ok (.iload_n 3, 1) := by decide +kernel
theorem dL_law_462 : decode cL_law 462 = .ok (.iconst 1, 1) := by decide +kernel
theorem dL_law_463 : decode cL_law 463 = .ok (.iadd, 1) := by decide +kernel
theorem dL_law_464 : decode cL_law 464 = .ok (.iaload, 1) := by decide +kernel
theorem dL_law_465 : decode cL_law 465 = .ok (.aload_n 0, 1) := by decide +kernel
theorem dL_law_466 : decode cL_law 466 = .ok (.iload_n 3, 1) := by decide +kernel
theorem dL_law_467 : decode cL_law 467 = .ok (.iconst 2, 1) := by decide +kernel
theorem dL_law_468 : decode cL_law 468 = .ok (.iadd, 1) := by decide +kernel
theorem dL_law_469 : decode cL_law 469 = .ok (.iaload, 1) := by decide +kernel
theorem dL_law_470 : decode cL_law 470 = .ok (.invokevirtual 39, 3) := by decide +kernel
theorem dL_law_473 : decode cL_law 473 = .ok (.if_icmp .eq 971, 3) := by decide +kernel
theorem dL_law_476 : decode cL_law 476 = .ok (.iconst 0, 1) := by decide +kernel
theorem dL_law_477 : decode cL_law 477 = .ok (.ireturn, 1) := by decide +kernel
theorem dL_law_478 : decode cL_law 478 = .ok (.aload_n 1, 1) := by decide +kernel
theorem dL_law_479 : decode cL_law 479 = .ok (.aload_n 0, 1) := by decide +kernel
theorem dL_law_480 : decode cL_law 480 = .ok (.iload_n 3, 1) := by decide +kernel
theorem dL_law_481 : decode cL_law 481 = .ok (.iconst 1, 1) := by decide +kernel
theorem dL_law_482 : decode cL_law 482 = .ok (.iadd, 1) := by decide +kernel
theorem dL_law_483 : decode cL_law 483 = .ok (.iaload, 1) := by decide +kernel
theorem dL_law_484 : decode cL_law 484 = .ok (.invokevirtual 40, 3) := by decide +kernel
theorem dL_law_487 : decode cL_law 487 = .ok (.aload_n 2, 1) := by decide +kernel
theorem dL_law_488 : decode cL_law 488 = .ok (.aload_n 0, 1) := by decide +kernel
theorem dL_law_489 : decode cL_law 489 = .ok (.iload_n 3, 1) := by decide +kernel
theorem dL_law_490 : decode cL_law 490 = .ok (.iconst 1, 1) := by decide +kernel
theorem dL_law_491 : decode cL_law 491 = .ok (.iadd, 1) := by decide +kernel
theorem dL_law_492 : decode cL_law 492 = .ok (.iaload, 1) := by decide +kernel
theorem dL_law_493 : decode cL_law 493 = .ok (.invokevirtual 44, 3) := by decide +kernel
theorem dL_law_496 : decode cL_law 496 = .ok (.if_icmp .eq 948, 3) := by decide +kernel
theorem dL_law_499 : decode cL_law 499 = .ok (.iconst 0, 1) := by decide +kernel
theorem dL_law_500 : decode cL_law 500 = .ok (.ireturn, 1) := by decide +kernel
theorem dL_law_501 : decode cL_law 501 = .ok (.aload_n 1, 1) := by decide +kernel
theorem dL_law_502 : decode cL_law 502 = .ok (.aload_n 0, 1) := by decide +kernel
theorem dL_law_503 : decode cL_law 503 = .ok (.iload_n 3, 1) := by decide +kernel
theorem dL_law_504 : decode cL_law 504 = .ok (.iconst 1, 1) := by decide +kernel
theorem dL_law_505 : decode cL_law 505 = .ok (.iadd, 1) := by decide +kernel
theorem dL_law_506 : decode cL_law 506 = .ok (.iaload, 1) := by decide +kernel
theorem dL_law_507 : decode cL_law 507 = .ok (.aload_n 0, 1) := by decide +kernel
theorem dL_law_508 : decode cL_law 508 = .ok (.iload_n 3, 1) := by decide +kernel
theorem dL_law_509 : decode cL_law 509 = .ok (.iconst 2, 1) := by decide +kernel
theorem dL_law_510 : decode cL_law 510 = .ok (.iadd, 1) := by decide +kernel
theorem dL_law_511 : decode cL_law 511 = .ok (.iaload, 1) := by decide +kernel
theorem dL_law_512 : decode cL_law 512 = .ok (.invokevirtual 45, 3) := by decide +kernel
theorem dL_law_515 : decode cL_law 515 = .ok (.aload_n 2, 1) := by decide +kernel
theorem dL_law_516 : decode cL_law 516 = .ok (.aload_n 0, 1) := by decide +kernel
theorem dL_law_517 : decode cL_law 517 = .ok (.iload_n 3, 1) := by decide +kernel
theorem dL_law_518 : decode cL_law 518 = .ok (.iconst 1, 1) := by decide +kernel
theorem dL_law_519 : decode cL_law 519 = .ok (.iadd, 1) := by decide +kernel
theorem dL_law_520 : decode cL_law 520 = .ok (.iaload, 1) := by decide +kernel
theorem dL_law_521 : decode cL_law 521 = .ok (.aload_n 0, 1) := by decide +kernel
theorem dL_law_522 : decode cL_law 522 = .ok (.iload_n 3, 1) := by decide +kernel
theorem dL_law_523 : decode cL_law 523 = .ok (.iconst 2, 1) := by decide +kernel
theorem dL_law_524 : decode cL_law 524 = .ok (.iadd, 1) := by decide +kernel
theorem dL_law_525 : decode cL_law 525 = .ok (.iaload, 1) := by decide +kernel
theorem dL_law_526 : decode cL_law 526 = .ok (.invokevirtual 48, 3) := by decide +kernel
theorem dL_law_529 : decode cL_law 529 = .ok (.if_icmp .eq 915, 3) := by decide +kernel
theorem dL_law_532 : decode cL_law 532 = .ok (.iconst 0, 1) := by decide +kernel
theorem dL_law_533 : decode cL_law 533 = .ok (.ireturn, 1) := by decide +kernel
theorem dL_law_534 : decode cL_law 534 = .ok (.aload_n 1, 1) := by decide +kernel
theorem dL_law_535 : decode cL_law 535 = .ok (.aload_n 0, 1) := by decide +kernel
theorem dL_law_536 : decode cL_law 536 = .ok (.iload_n 3, 1) := by decide +kernel
theorem dL_law_537 : decode cL_law 537 = .ok (.iconst 1, 1) := by decide +kernel
theorem dL_law_538 : decode cL_law 538 = .ok (.iadd, 1) := by decide +kernel
theorem dL_law_539 : decode cL_law 539 = .ok (.iaload, 1) := by decide +kernel
theorem dL_law_540 : decode cL_law 540 = .ok (.aload_n 0, 1) := by decide +kernel
theorem dL_law_541 : decode cL_law 541 = .ok (.iload_n 3, 1) := by decide +kernel
theorem dL_law_542 : decode cL_law 542 = .ok (.iconst 2, 1) := by decide +kernel
theorem dL_law_543 : decode cL_law 543 = .ok (.iadd, 1) := by decide +kernel
theorem dL_law_544 : decode cL_law 544 = .ok (.iaload, 1) := by decide +kernel
theorem dL_law_545 : decode cL_law 545 = .ok (.invokevirtual 49, 3) := by decide +kernel
theorem dL_law_548 : decode cL_law 548 = .ok (.aload_n 2, 1) := by decide +kernel
theorem dL_law_549 : decode cL_law 549 = .ok (.aload_n 0, 1) := by decide +kernel
theorem dL_law_550 : decode cL_law 550 = .ok (.iload_n 3, 1) := by decide +kernel
theorem dL_law_551 : decode cL_law 551 = .ok (.iconst 1, 1) := by decide +kernel
theorem dL_law_552 : decode cL_law 552 = .ok (.iadd, 1) := by decide +kernel
theorem dL_law_553 : decode cL_law 553 = .ok (.iaload, 1) := by decide +kernel
theorem dL_law_554 : decode cL_law 554 = .ok (.aload_n 0, 1) := by decide +kernel
theorem dL_law_555 : decode cL_law 555 = .ok (.iload_n 3, 1) := by decide +kernel
theorem dL_law_556 : decode cL_law 556 = .ok (.iconst 2, 1) := by decide +kernel
theorem dL_law_557 : decode cL_law 557 = .ok (.iadd, 1) := by decide +kernel
theorem dL_law_558 : decode cL_law 558 = .ok (.iaload, 1) := by decide +kernel
theorem dL_law_559 : decode cL_law 559 = .ok (.invokevirtual 52, 3) := by decide +kernel
theorem dL_law_562 : decode cL_law 562 = .ok (.if_icmp .eq 882, 3) := by decide +kernel
theorem dL_law_565 : decode cL_law 565 = .ok (.iconst 0, 1) := by decide +kernel
theorem dL_law_566 : decode cL_law 566 = .ok (.ireturn, 1) := by decide +kernel
theorem dL_law_567 : decode cL_law 567 = .ok (.aload_n 1, 1) := by decide +kernel
theorem dL_law_568 : decode cL_law 568 = .ok (.aload_n 0, 1) := by decide +kernel
theorem dL_law_569 : decode cL_law 569 = .ok (.iload_n 3, 1) := by decide +kernel
theorem dL_law_570 : decode cL_law 570 = .ok (.iconst 1, 1) := by decide +kernel
theorem dL_law_571 : decode cL_law 571 = .ok (.iadd, 1) := by decide +kernel
theorem dL_law_572 : decode cL_law 572 = .ok (.iaload, 1) := by decide +kernel
theorem dL_law_573 : decode cL_law 573 = .ok (.invokevirtual 53, 3) := by decide +kernel
theorem dL_law_576 : decode cL_law 576 = .ok (.aload_n 2, 1) := by decide +kernel
theorem dL_law_577 : decode cL_law 577 = .ok (.aload_n 0, 1) := by decide +kernel
theorem dL_law_578 : decode cL_law 578 = .ok (.iload_n 3, 1) := by decide +kernel
theorem dL_law_579 : decode cL_law 579 = .ok (.iconst 1, 1) := by decide +kernel
theorem dL_law_580 : decode cL_law 580 = .ok (.iadd, 1) := by decide +kernel
theorem dL_law_581 : decode cL_law 581 = .ok (.iaload, 1) := by decide +kernel
theorem dL_law_582 : decode cL_law 582 = .ok (.invokevirtual 56, 3) := by decide +kernel
theorem dL_law_585 : decode cL_law 585 = .ok (.if_icmp .eq 859, 3) := by decide +kernel
theorem dL_law_588 : decode cL_law 588 = .ok (.iconst 0, 1) := by decide +kernel
theorem dL_law_589 : decode cL_law 589 = .ok (.ireturn, 1) := by decide +kernel
theorem dL_law_590 : decode cL_law 590 = .ok (.aload_n 1, 1) := by decide +kernel
theorem dL_law_591 : decode cL_law 591 = .ok (.aload_n 0, 1) := by decide +kernel
theorem dL_law_592 : decode cL_law 592 = .ok (.iload_n 3, 1) := by decide +kernel
theorem dL_law_593 : decode cL_law 593 = .ok (.iconst 1, 1) := by decide +kernel
theorem dL_law_594 : decode cL_law 594 = .ok (.iadd, 1) := by decide +kernel
theorem dL_law_595 : decode cL_law 595 = .ok (.iaload, 1) := by decide +kernel
theorem dL_law_596 : decode cL_law 596 = .ok (.invokevirtual 57, 3) := by decide +kernel
theorem dL_law_599 : decode cL_law 599 = .ok (.aload_n 2, 1) := by decide +kernel
theorem dL_law_600 : decode cL_law 600 = .ok (.aload_n 0, 1) := by decide +kernel
theorem dL_law_601 : decode cL_law 601 = .ok (.iload_n 3, 1) := by decide +kernel
theorem dL_law_602 : decode cL_law 602 = .ok (.iconst 1, 1) := by decide +kernel
theorem dL_law_603 : decode cL_law 603 = .ok (.iadd, 1) := by decide +kernel
theorem dL_law_604 : decode cL_law 604 = .ok (.iaload, 1) := by decide +kernel
theorem dL_law_605 : decode cL_law 605 = .ok (.invokevirtual 60, 3) := by decide +kernel
theorem dL_law_608 : decode cL_law 608 = .ok (.if_icmp .eq 836, 3) := by decide +kernel
theorem dL_law_611 : decode cL_law 611 = .ok (.iconst 0, 1) := by decide +kernel
theorem dL_law_612 : decode cL_law 612 = .ok (.ireturn, 1) := by decide +kernel
theorem dL_law_613 : decode cL_law 613 = .ok (.aload_n 1, 1) := by decide +kernel
theorem dL_law_614 : decode cL_law 614 = .ok (.aload_n 0, 1) := by decide +kernel
theorem dL_law_615 : decode cL_law 615 = .ok (.iload_n 3, 1) := by decide +kernel
theorem dL_law_616 : decode cL_law 616 = .ok (.iconst 1, 1) := by decide +kernel
theorem dL_law_617 : decode cL_law 617 = .ok (.iadd, 1) := by decide +kernel
theorem dL_law_618 : decode cL_law 618 = .ok (.iaload, 1) := by decide +kernel
theorem dL_law_619 : decode cL_law 619 = .ok (.invokevirtual 61, 3) := by decide +kernel
theorem dL_law_622 : decode cL_law 622 = .ok (.aload_n 2, 1) := by decide +kernel
theorem dL_law_623 : decode cL_law 623 = .ok (.aload_n 0, 1) := by decide +kernel
theorem dL_law_624 : decode cL_law 624 = .ok (.iload_n 3, 1) := by decide +kernel
theorem dL_law_625 : decode cL_law 625 = .ok (.iconst 1, 1) := by decide +kernel
theorem dL_law_626 : decode cL_law 626 = .ok (.iadd, 1) := by decide +kernel
theorem dL_law_627 : decode cL_law 627 = .ok (.iaload, 1) := by decide +kernel
theorem dL_law_628 : decode cL_law 628 = .ok (.invokevirtual 64, 3) := by decide +kernel
theorem dL_law_631 : decode cL_law 631 = .ok (.if_icmp .eq 813, 3) := by decide +kernel
theorem dL_law_634 : decode cL_law 634 = .ok (.iconst 0, 1) := by decide +kernel
theorem dL_law_635 : decode cL_law 635 = .ok (.ireturn, 1) := by decide +kernel
theorem dL_law_636 : decode cL_law 636 = .ok (.aload_n 1, 1) := by decide +kernel
theorem dL_law_637 : decode cL_law 637 = .ok (.aload_n 0, 1) := by decide +kernel
theorem dL_law_638 : decode cL_law 638 = .ok (.iload_n 3, 1) := by decide +kernel
theorem dL_law_639 : decode cL_law 639 = .ok (.iconst 1, 1) := by decide +kernel
theorem dL_law_640 : decode cL_law 640 = .ok (.iadd, 1) := by decide +kernel
theorem dL_law_641 : decode cL_law 641 = .ok (.iaload, 1) := by decide +kernel
theorem dL_law_642 : decode cL_law 642 = .ok (.invokevirtual 65, 3) := by decide +kernel
theorem dL_law_645 : decode cL_law 645 = .ok (.aload_n 2, 1) := by decide +kernel
theorem dL_law_646 : decode cL_law 646 = .ok (.aload_n 0, 1) := by decide +kernel
theorem dL_law_647 : decode cL_law 647 = .ok (.iload_n 3, 1) := by decide +kernel
theorem dL_law_648 : decode cL_law 648 = .ok (.iconst 1, 1) := by decide +kernel
theorem dL_law_649 : decode cL_law 649 = .ok (.iadd, 1) := by decide +kernel
theorem dL_law_650 : decode cL_law 650 = .ok (.iaload, 1) := by decide +kernel
theorem dL_law_651 : decode cL_law 651 = .ok (.invokevirtual 68, 3) := by decide +kernel
theorem dL_law_654 : decode cL_law 654 = .ok (.if_icmp .eq 790, 3) := by decide +kernel
theorem dL_law_657 : decode cL_law 657 = .ok (.iconst 0, 1) := by decide +kernel
theorem dL_law_658 : decode cL_law 658 = .ok (.ireturn, 1) := by decide +kernel
theorem dL_law_659 : decode cL_law 659 = .ok (.aload_n 1, 1) := by decide +kernel
theorem dL_law_660 : decode cL_law 660 = .ok (.invokevirtual 69, 3) := by decide +kernel
theorem dL_law_663 : decode cL_law 663 = .ok (.aload_n 2, 1) := by decide +kernel
theorem dL_law_664 : decode cL_law 664 = .ok (.invokevirtual 73, 3) := by decide +kernel
theorem dL_law_667 : decode cL_law 667 = .ok (.if_icmp .eq 777, 3) := by decide +kernel
theorem dL_law_670 : decode cL_law 670 = .ok (.iconst 0, 1) := by decide +kernel
theorem dL_law_671 : decode cL_law 671 = .ok (.ireturn, 1) := by decide +kernel
theorem dL_law_672 : decode cL_law 672 = .ok (.aload_n 1, 1) := by decide +kernel
theorem dL_law_673 : decode cL_law 673 = .ok (.aload_n 0, 1) := by decide +kernel
theorem dL_law_674 : decode cL_law 674 = .ok (.iload_n 3, 1) := by decide +kernel
theorem dL_law_675 : decode cL_law 675 = .ok (.iconst 1, 1) := by decide +kernel
theorem dL_law_676 : decode cL_law 676 = .ok (.iadd, 1) := by decide +kernel
theorem dL_law_677 : decode cL_law 677 = .ok (.iaload, 1) := by decide +kernel
theorem dL_law_678 : decode cL_law 678 = .ok (.aload_n 0, 1) := by decide +kernel
theorem dL_law_679 : decode cL_law 679 = .ok (.iload_n 3, 1) := by decide +kernel
theorem dL_law_680 : decode cL_law 680 = .ok (.iconst 2, 1) := by decide +kernel
theorem dL_law_681 : decode cL_law 681 = .ok (.iadd, 1) := by decide +kernel
theorem dL_law_682 : decode cL_law 682 = .ok (.iaload, 1) := by decide +kernel
theorem dL_law_683 : decode cL_law 683 = .ok (.invokevirtual 74, 3) := by decide +kernel
theorem dL_law_686 : decode cL_law 686 = .ok (.aload_n 2, 1) := by decide +kernel
theorem dL_law_687 : decode cL_law 687 = .ok (.aload_n 0, 1) := by decide +kernel
theorem dL_law_688 : decode cL_law 688 = .ok (.iload_n 3, 1) := by decide +kernel
theorem dL_law_689 : decode cL_law 689 = .ok (.iconst 1, 1) := by decide +kernel
theorem dL_law_690 : decode cL_law 690 = .ok (.iadd, 1) := by decide +kernel
theorem dL_law_691 : decode cL_law 691 = .ok (.iaload, 1) := by decide +kernel
theorem dL_law_692 : decode cL_law 692 = .ok (.aload_n 0, 1) := by decide +kernel
theorem dL_law_693 : decode cL_law 693 = .ok (.iload_n 3, 1) := by decide +kernel
theorem dL_law_694 : decode cL_law 694 = .ok (.iconst 2, 1) := by decide +kernel
theorem dL_law_695 : decode cL_law 695 = .ok (.iadd, 1) := by decide +kernel
theorem dL_law_696 : decode cL_law 696 = .ok (.iaload, 1) := by decide +kernel
theorem dL_law_697 : decode cL_law 697 = .ok (.invokevirtual 77, 3) := by decide +kernel
theorem dL_law_700 : decode cL_law 700 = .ok (.if_icmp .eq 744, 3) := by decide +kernel
theorem dL_law_703 : decode cL_law 703 = .ok (.iconst 0, 1) := by decide +kernel
theorem dL_law_704 : decode cL_law 704 = .ok (.ireturn, 1) := by decide +kernel
theorem dL_law_705 : decode cL_law 705 = .ok (.aload_n 1, 1) := by decide +kernel
theorem dL_law_706 : decode cL_law 706 = .ok (.aload_n 0, 1) := by decide +kernel
theorem dL_law_707 : decode cL_law 707 = .ok (.iload_n 3, 1) := by decide +kernel
theorem dL_law_708 : decode cL_law 708 = .ok (.iconst 1, 1) := by decide +kernel
theorem dL_law_709 : decode cL_law 709 = .ok (.iadd, 1) := by decide +kernel
theorem dL_law_710 : decode cL_law 710 = .ok (.iaload, 1) := by decide +kernel
theorem dL_law_711 : decode cL_law 711 = .ok (.invokevirtual 78, 3) := by decide +kernel
theorem dL_law_714 : decode cL_law 714 = .ok (.aload_n 2, 1) := by decide +kernel
theorem dL_law_715 : decode cL_law 715 = .ok (.aload_n 0, 1) := by decide +kernel
theorem dL_law_716 : decode cL_law 716 = .ok (.iload_n 3, 1) := by decide +kernel
theorem dL_law_717 : decode cL_law 717 = .ok (.iconst 1, 1) := by decide +kernel
theorem dL_law_718 : decode cL_law 718 = .ok (.iadd, 1) := by decide +kernel
theorem dL_law_719 : decode cL_law 719 = .ok (.iaload, 1) := by decide +kernel
theorem dL_law_720 : decode cL_law 720 = .ok (.invokevirtual 81, 3) := by decide +kernel
theorem dL_law_723 : decode cL_law 723 = .ok (.if_icmp .eq 721, 3) := by decide +kernel
theorem dL_law_726 : decode cL_law 726 = .ok (.iconst 0, 1) := by decide +kernel
theorem dL_law_727 : decode cL_law 727 = .ok (.ireturn, 1) := by decide +kernel
theorem dL_law_728 : decode cL_law 728 = .ok (.aload_n 1, 1) := by decide +kernel
theorem dL_law_729 : decode cL_law 729 = .ok (.aload_n 0, 1) := by decide +kernel
theorem dL_law_730 : decode cL_law 730 = .ok (.iload_n 3, 1) := by decide +kernel
theorem dL_law_731 : decode cL_law 731 = .ok (.iconst 1, 1) := by decide +kernel
theorem dL_law_732 : decode cL_law 732 = .ok (.iadd, 1) := by decide +kernel
theorem dL_law_733 : decode cL_law 733 = .ok (.iaload, 1) := by decide +kernel
theorem dL_law_734 : decode cL_law 734 = .ok (.aload_n 0, 1) := by decide +kernel
theorem dL_law_735 : decode cL_law 735 = .ok (.iload_n 3, 1) := by decide +kernel
theorem dL_law_736 : decode cL_law 736 = .ok (.iconst 2, 1) := by decide +kernel
theorem dL_law_737 : decode cL_law 737 = .ok (.iadd, 1) := by decide +kernel
theorem dL_law_738 : decode cL_law 738 = .ok (.iaload, 1) := by decide +kernel
theorem dL_law_739 : decode cL_law 739 = .ok (.invokevirtual 82, 3) := by decide +kernel
theorem dL_law_742 : decode cL_law 742 = .ok (.aload_n 2, 1) := by decide +kernel
theorem dL_law_743 : decode cL_law 743 = .ok (.aload_n 0, 1) := by decide +kernel
theorem dL_law_744 : decode cL_law 744 = .ok (.iload_n 3, 1) := by decide +kernel
theorem dL_law_745 : decode cL_law 745 = .ok (.iconst 1, 1) := by decide +kernel
theorem dL_law_746 : decode cL_law 746 = .ok (.iadd, 1) := by decide +kernel
theorem dL_law_747 : decode cL_law 747 = .ok (.iaload, 1) := by decide +kernel
theorem dL_law_748 : decode cL_law 748 = .ok (.aload_n 0, 1) := by decide +kernel
theorem dL_law_749 : decode cL_law 749 = .ok (.iload_n 3, 1) := by decide +kernel
theorem dL_law_750 : decode cL_law 750 = .ok (.iconst 2, 1) := by decide +kernel
theorem dL_law_751 : decode cL_law 751 = .ok (.iadd, 1) := by decide +kernel
theorem dL_law_752 : decode cL_law 752 = .ok (.iaload, 1) := by decide +kernel
theorem dL_law_753 : decode cL_law 753 = .ok (.invokevirtual 85, 3) := by decide +kernel
theorem dL_law_756 : decode cL_law 756 = .ok (.if_icmp .eq 688, 3) := by decide +kernel
theorem dL_law_759 : decode cL_law 759 = .ok (.iconst 0, 1) := by decide +kernel
theorem dL_law_760 : decode cL_law 760 = .ok (.ireturn, 1) := by decide +kernel
theorem dL_law_761 : decode cL_law 761 = .ok (.aload_n 1, 1) := by decide +kernel
theorem dL_law_762 : decode cL_law 762 = .ok (.aload_n 0, 1) := by decide +kernel
theorem dL_law_763 : decode cL_law 763 = .ok (.iload_n 3, 1) := by decide +kernel
theorem dL_law_764 : decode cL_law 764 = .ok (.iconst 1, 1) := by decide +kernel
theorem dL_law_765 : decode cL_law 765 = .ok (.iadd, 1) := by decide +kernel
theorem dL_law_766 : decode cL_law 766 = .ok (.iaload, 1) := by decide +kernel
theorem dL_law_767 : decode cL_law 767 = .ok (.invokevirtual 86, 3) := by decide +kernel
theorem dL_law_770 : decode cL_law 770 = .ok (.aload_n 2, 1) := by decide +kernel
theorem dL_law_771 : decode cL_law 771 = .ok (.aload_n 0, 1) := by decide +kernel
theorem dL_law_772 : decode cL_law 772 = .ok (.iload_n 3, 1) := by decide +kernel
theorem dL_law_773 : decode cL_law 773 = .ok (.iconst 1, 1) := by decide +kernel
theorem dL_law_774 : decode cL_law 774 = .ok (.iadd, 1) := by decide +kernel
theorem dL_law_775 : decode cL_law 775 = .ok (.iaload, 1) := by decide +kernel
theorem dL_law_776 : decode cL_law 776 = .ok (.invokevirtual 89, 3) := by decide +kernel
theorem dL_law_779 : decode cL_law 779 = .ok (.if_icmp .eq 665, 3) := by decide +kernel
theorem dL_law_782 : decode cL_law 782 = .ok (.iconst 0, 1) := by decide +kernel
theorem dL_law_783 : decode cL_law 783 = .ok (.ireturn, 1) := by decide +kernel
theorem dL_law_784 : decode cL_law 784 = .ok (.aload_n 1, 1) := by decide +kernel
theorem dL_law_785 : decode cL_law 785 = .ok (.aload_n 0, 1) := by decide +kernel
theorem dL_law_786 : decode cL_law 786 = .ok (.iload_n 3, 1) := by decide +kernel
theorem dL_law_787 : decode cL_law 787 = .ok (.iconst 1, 1) := by decide +kernel
theorem dL_law_788 : decode cL_law 788 = .ok (.iadd, 1) := by decide +kernel
theorem dL_law_789 : decode cL_law 789 = .ok (.iaload, 1) := by decide +kernel
theorem dL_law_790 : decode cL_law 790 = .ok (.invokevirtual 90, 3) := by decide +kernel
theorem dL_law_793 : decode cL_law 793 = .ok (.aload_n 2, 1) := by decide +kernel
theorem dL_law_794 : decode cL_law 794 = .ok (.aload_n 0, 1) := by decide +kernel
theorem dL_law_795 : decode cL_law 795 = .ok (.iload_n 3, 1) := by decide +kernel
theorem dL_law_796 : decode cL_law 796 = .ok (.iconst 1, 1) := by decide +kernel
theorem dL_law_797 : decode cL_law 797 = .ok (.iadd, 1) := by decide +kernel
theorem dL_law_798 : decode cL_law 798 = .ok (.iaload, 1) := by decide +kernel
theorem dL_law_799 : decode cL_law 799 = .ok (.invokevirtual 93, 3) := by decide +kernel
theorem dL_law_802 : decode cL_law 802 = .ok (.if_icmp .eq 642, 3) := by decide +kernel
theorem dL_law_805 : decode cL_law 805 = .ok (.iconst 0, 1) := by decide +kernel
theorem dL_law_806 : decode cL_law 806 = .ok (.ireturn, 1) := by decide +kernel
theorem dL_law_807 : decode cL_law 807 = .ok (.aload_n 1, 1) := by decide +kernel
theorem dL_law_808 : decode cL_law 808 = .ok (.invokevirtual 94, 3) := by decide +kernel
theorem dL_law_811 : decode cL_law 811 = .ok (.aload_n 2, 1) := by decide +kernel
theorem dL_law_812 : decode cL_law 812 = .ok (.invokevirtual 97, 3) := by decide +kernel
theorem dL_law_815 : decode cL_law 815 = .ok (.if_icmp .eq 629, 3) := by decide +kernel
theorem dL_law_818 : decode cL_law 818 = .ok (.iconst 0, 1) := by decide +kernel
theorem dL_law_819 : decode cL_law 819 = .ok (.ireturn, 1) := by decide +kernel
theorem dL_law_820 : decode cL_law 820 = .ok (.aload_n 1, 1) := by decide +kernel
theorem dL_law_821 : decode cL_law 821 = .ok (.aload_n 0, 1) := by decide +kernel
theorem dL_law_822 : decode cL_law 822 = .ok (.iload_n 3, 1) := by decide +kernel
theorem dL_law_823 : decode cL_law 823 = .ok (.iconst 1, 1) := by decide +kernel
theorem dL_law_824 : decode cL_law 824 = .ok (.iadd, 1) := by decide +kernel
theorem dL_law_825 : decode cL_law 825 = .ok (.iaload, 1) := by decide +kernel
theorem dL_law_826 : decode cL_law 826 = .ok (.invokevirtual 98, 3) := by decide +kernel
theorem dL_law_829 : decode cL_law 829 = .ok (.aload_n 2, 1) := by decide +kernel
theorem dL_law_830 : decode cL_law 830 = .ok (.aload_n 0, 1) := by decide +kernel
theorem dL_law_831 : decode cL_law 831 = .ok (.iload_n 3, 1) := by decide +kernel
theorem dL_law_832 : decode cL_law 832 = .ok (.iconst 1, 1) := by decide +kernel
theorem dL_law_833 : decode cL_law 833 = .ok (.iadd, 1) := by decide +kernel
theorem dL_law_834 : decode cL_law 834 = .ok (.iaload, 1) := by decide +kernel
theorem dL_law_835 : decode cL_law 835 = .ok (.invokevirtual 101, 3) := by decide +kernel
theorem dL_law_838 : decode cL_law 838 = .ok (.if_icmp .eq 606, 3) := by decide +kernel
theorem dL_law_841 : decode cL_law 841 = .ok (.iconst 0, 1) := by decide +kernel
theorem dL_law_842 : decode cL_law 842 = .ok (.ireturn, 1) := by decide +kernel
theorem dL_law_843 : decode cL_law 843 = .ok (.aload_n 1, 1) := by decide +kernel
theorem dL_law_844 : decode cL_law 844 = .ok (.invokevirtual 102, 3) := by decide +kernel
theorem dL_law_847 : decode cL_law 847 = .ok (.aload_n 2, 1) := by decide +kernel
theorem dL_law_848 : decode cL_law 848 = .ok (.invokevirtual 105, 3) := by decide +kernel
theorem dL_law_851 : decode cL_law 851 = .ok (.if_icmp .eq 593, 3) := by decide +kernel
theorem dL_law_854 : decode cL_law 854 = .ok (.iconst 0, 1) := by decide +kernel
theorem dL_law_855 : decode cL_law 855 = .ok (.ireturn, 1) := by decide +kernel
theorem dL_law_856 : decode cL_law 856 = .ok (.aload_n 1, 1) := by decide +kernel
theorem dL_law_857 : decode cL_law 857 = .ok (.invokevirtual 106, 3) := by decide +kernel
theorem dL_law_860 : decode cL_law 860 = .ok (.aload_n 2, 1) := by decide +kernel
theorem dL_law_861 : decode cL_law 861 = .ok (.invokevirtual 109, 3) := by decide +kernel
theorem dL_law_864 : decode cL_law 864 = .ok (.if_icmp .eq 580, 3) := by decide +kernel
theorem dL_law_867 : decode cL_law 867 = .ok (.iconst 0, 1) := by decide +kernel
theorem dL_law_868 : decode cL_law 868 = .ok (.ireturn, 1) := by decide +kernel
theorem dL_law_869 : decode cL_law 869 = .ok (.aload_n 1, 1) := by decide +kernel
theorem dL_law_870 : decode cL_law 870 = .ok (.invokevirtual 110, 3) := by decide +kernel
theorem dL_law_873 : decode cL_law 873 = .ok (.aload_n 2, 1) := by decide +kernel
theorem dL_law_874 : decode cL_law 874 = .ok (.invokevirtual 113, 3) := by decide +kernel
theorem dL_law_877 : decode cL_law 877 = .ok (.if_icmp .eq 567, 3) := by decide +kernel
theorem dL_law_880 : decode cL_law 880 = .ok (.iconst 0, 1) := by decide +kernel
theorem dL_law_881 : decode cL_law 881 = .ok (.ireturn, 1) := by decide +kernel
theorem dL_law_882 : decode cL_law 882 = .ok (.aload_n 1, 1) := by decide +kernel
theorem dL_law_883 : decode cL_law 883 = .ok (.invokevirtual 114, 3) := by decide +kernel
theorem dL_law_886 : decode cL_law 886 = .ok (.aload_n 2, 1) := by decide +kernel
theorem dL_law_887 : decode cL_law 887 = .ok (.invokevirtual 117, 3) := by decide +kernel
theorem dL_law_890 : decode cL_law 890 = .ok (.if_icmp .eq 554, 3) := by decide +kernel
theorem dL_law_893 : decode cL_law 893 = .ok (.iconst 0, 1) := by decide +kernel
theorem dL_law_894 : decode cL_law 894 = .ok (.ireturn, 1) := by decide +kernel
theorem dL_law_895 : decode cL_law 895 = .ok (.aload_n 1, 1) := by decide +kernel
theorem dL_law_896 : decode cL_law 896 = .ok (.invokevirtual 118, 3) := by decide +kernel
theorem dL_law_899 : decode cL_law 899 = .ok (.aload_n 2, 1) := by decide +kernel
theorem dL_law_900 : decode cL_law 900 = .ok (.invokevirtual 121, 3) := by decide +kernel
theorem dL_law_903 : decode cL_law 903 = .ok (.if_icmp .eq 541, 3) := by decide +kernel
theorem dL_law_906 : decode cL_law 906 = .ok (.iconst 0, 1) := by decide +kernel
theorem dL_law_907 : decode cL_law 907 = .ok (.ireturn, 1) := by decide +kernel
theorem dL_law_908 : decode cL_law 908 = .ok (.aload_n 1, 1) := by decide +kernel
theorem dL_law_909 : decode cL_law 909 = .ok (.invokevirtual 122, 3) := by decide +kernel
theorem dL_law_912 : decode cL_law 912 = .ok (.aload_n 2, 1) := by decide +kernel
theorem dL_law_913 : decode cL_law 913 = .ok (.invokevirtual 125, 3) := by decide +kernel
theorem dL_law_916 : decode cL_law 916 = .ok (.if_icmp .eq 528, 3) := by decide +kernel
theorem dL_law_919 : decode cL_law 919 = .ok (.iconst 0, 1) := by decide +kernel
theorem dL_law_920 : decode cL_law 920 = .ok (.ireturn, 1) := by decide +kernel
theorem dL_law_921 : decode cL_law 921 = .ok (.aload_n 1, 1) := by decide +kernel
theorem dL_law_922 : decode cL_law 922 = .ok (.aload_n 0, 1) := by decide +kernel
theorem dL_law_923 : decode cL_law 923 = .ok (.iload_n 3, 1) := by decide +kernel
theorem dL_law_924 : decode cL_law 924 = .ok (.iconst 1, 1) := by decide +kernel
theorem dL_law_925 : decode cL_law 925 = .ok (.iadd, 1) := by decide +kernel
theorem dL_law_926 : decode cL_law 926 = .ok (.iaload, 1) := by decide +kernel
theorem dL_law_927 : decode cL_law 927 = .ok (.invokevirtual 126, 3) := by decide +kernel
theorem dL_law_930 : decode cL_law 930 = .ok (.aload_n 2, 1) := by decide +kernel
theorem dL_law_931 : decode cL_law 931 = .ok (.aload_n 0, 1) := by decide +kernel
theorem dL_law_932 : decode cL_law 932 = .ok (.iload_n 3, 1) := by decide +kernel
theorem dL_law_933 : decode cL_law 933 = .ok (.iconst 1, 1) := by decide +kernel
theorem dL_law_934 : decode cL_law 934 = .ok (.iadd, 1) := by decide +kernel
theorem dL_law_935 : decode cL_law 935 = .ok (.iaload, 1) := by decide +kernel
theorem dL_law_936 : decode cL_law 936 = .ok (.invokevirtual 129, 3) := by decide +kernel
theorem dL_law_939 : decode cL_law 939 = .ok (.if_icmp .eq 505, 3) := by decide +kernel
theorem dL_law_942 : decode cL_law 942 = .ok (.iconst 0, 1) := by decide +kernel
theorem dL_law_943 : decode cL_law 943 = .ok (.ireturn, 1) := by decide +kernel
theorem dL_law_944 : decode cL_law 944 = .ok (.aload_n 1, 1) := by decide +kernel
theorem dL_law_945 : decode cL_law 945 = .ok (.invokevirtual 130, 3) := by decide +kernel
theorem dL_law_948 : decode cL_law 948 = .ok (.aload_n 2, 1) := by decide +kernel
theorem dL_law_949 : decode cL_law 949 = .ok (.invokevirtual 133, 3) := by decide +kernel
theorem dL_law_952 : decode cL_law 952 = .ok (.if_icmp .eq 492, 3) := by decide +kernel
theorem dL_law_955 : decode cL_law 955 = .ok (.iconst 0, 1) := by decide +kernel
theorem dL_law_956 : decode cL_law 956 = .ok (.ireturn, 1) := by decide +kernel
theorem dL_law_957 : decode cL_law 957 = .ok (.aload_n 1, 1) := by decide +kernel
theorem dL_law_958 : decode cL_law 958 = .ok (.aload_n 0, 1) := by decide +kernel
theorem dL_law_959 : decode cL_law 959 = .ok (.iload_n 3, 1) := by decide +kernel
theorem dL_law_960 : decode cL_law 960 = .ok (.iconst 1, 1) := by decide +kernel
theorem dL_law_961 : decode cL_law 961 = .ok (.iadd, 1) := by decide +kernel
theorem dL_law_962 : decode cL_law 962 = .ok (.iaload, 1) := by decide +kernel
theorem dL_law_963 : decode cL_law 963 = .ok (.invokevirtual 134, 3) := by decide +kernel
theorem dL_law_966 : decode cL_law 966 = .ok (.aload_n 2, 1) := by decide +kernel
theorem dL_law_967 : decode cL_law 967 = .ok (.aload_n 0, 1) := by decide +kernel
theorem dL_law_968 : decode cL_law 968 = .ok (.iload_n 3, 1) := by decide +kernel
theorem dL_law_969 : decode cL_law 969 = .ok (.iconst 1, 1) := by decide +kernel
theorem dL_law_970 : decode cL_law 970 = .ok (.iadd, 1) := by decide +kernel
theorem dL_law_971 : decode cL_law 971 = .ok (.iaload, 1) := by decide +kernel
theorem dL_law_972 : decode cL_law 972 = .ok (.invokevirtual 137, 3) := by decide +kernel
theorem dL_law_975 : decode cL_law 975 = .ok (.if_icmp .eq 469, 3) := by decide +kernel
theorem dL_law_978 : decode cL_law 978 = .ok (.iconst 0, 1) := by decide +kernel
theorem dL_law_979 : decode cL_law 979 = .ok (.ireturn, 1) := by decide +kernel
theorem dL_law_980 : decode cL_law 980 = .ok (.aload_n 1, 1) := by decide +kernel
theorem dL_law_981 : decode cL_law 981 = .ok (.aload_n 0, 1) := by decide +kernel
theorem dL_law_982 : decode cL_law 982 = .ok (.iload_n 3, 1) := by decide +kernel
theorem dL_law_983 : decode cL_law 983 = .ok (.iconst 1, 1) := by decide +kernel
theorem dL_law_984 : decode cL_law 984 = .ok (.iadd, 1) := by decide +kernel
theorem dL_law_985 : decode cL_law 985 = .ok (.iaload, 1) := by decide +kernel
theorem dL_law_986 : decode cL_law 986 = .ok (.invokevirtual 138, 3) := by decide +kernel
theorem dL_law_989 : decode cL_law 989 = .ok (.aload_n 2, 1) := by decide +kernel
theorem dL_law_990 : decode cL_law 990 = .ok (.aload_n 0, 1) := by decide +kernel
theorem dL_law_991 : decode cL_law 991 = .ok (.iload_n 3, 1) := by decide +kernel
theorem dL_law_992 : decode cL_law 992 = .ok (.iconst 1, 1) := by decide +kernel
theorem dL_law_993 : decode cL_law 993 = .ok (.iadd, 1) := by decide +kernel
theorem dL_law_994 : decode cL_law 994 = .ok (.iaload, 1) := by decide +kernel
theorem dL_law_995 : decode cL_law 995 = .ok (.invokevirtual 141, 3) := by decide +kernel
theorem dL_law_998 : decode cL_law 998 = .ok (.if_icmp .eq 446, 3) := by decide +kernel
theorem dL_law_1001 : decode cL_law 1001 = .ok (.iconst 0, 1) := by decide +kernel
theorem dL_law_1002 : decode cL_law 1002 = .ok (.ireturn, 1) := by decide +kernel
theorem dL_law_1003 : decode cL_law 1003 = .ok (.aload_n 1, 1) := by decide +kernel
theorem dL_law_1004 : decode cL_law 1004 = .ok (.invokevirtual 142, 3) := by decide +kernel
theorem dL_law_1007 : decode cL_law 1007 = .ok (.aload_n 2, 1) := by decide +kernel
theorem dL_law_1008 : decode cL_law 1008 = .ok (.invokevirtual 145, 3) := by decide +kernel
theorem dL_law_1011 : decode cL_law 1011 = .ok (.if_icmp .eq 433, 3) := by decide +kernel
theorem dL_law_1014 : decode cL_law 1014 = .ok (.iconst 0, 1) := by decide +kernel
theorem dL_law_1015 : decode cL_law 1015 = .ok (.ireturn, 1) := by decide +kernel
theorem dL_law_1016 : decode cL_law 1016 = .ok (.aload_n 1, 1) := by decide +kernel
theorem dL_law_1017 : decode cL_law 1017 = .ok (.aload_n 0, 1) := by decide +kernel
theorem dL_law_1018 : decode cL_law 1018 = .ok (.iload_n 3, 1) := by decide +kernel
theorem dL_law_1019 : decode cL_law 1019 = .ok (.iconst 1, 1) := by decide +kernel
theorem dL_law_1020 : decode cL_law 1020 = .ok (.iadd, 1) := by decide +kernel
theorem dL_law_1021 : decode cL_law 1021 = .ok (.iaload, 1) := by decide +kernel
theorem dL_law_1022 : decode cL_law 1022 = .ok (.invokevirtual 146, 3) := by decide +kernel
theorem dL_law_1025 : decode cL_law 1025 = .ok (.aload_n 2, 1) := by decide +kernel
theorem dL_law_1026 : decode cL_law 1026 = .ok (.aload_n 0, 1) := by decide +kernel
theorem dL_law_1027 : decode cL_law 1027 = .ok (.iload_n 3, 1) := by decide +kernel
theorem dL_law_1028 : decode cL_law 1028 = .ok (.iconst 1, 1) := by decide +kernel
theorem dL_law_1029 : decode cL_law 1029 = .ok (.iadd, 1) := by decide +kernel
theorem dL_law_1030 : decode cL_law 1030 = .ok (.iaload, 1) := by decide +kernel
theorem dL_law_1031 : decode cL_law 1031 = .ok (.invokevirtual 149, 3) := by decide +kernel
theorem dL_law_1034 : decode cL_law 1034 = .ok (.if_icmp .eq 410, 3) := by decide +kernel
theorem dL_law_1037 : decode cL_law 1037 = .ok (.iconst 0, 1) := by decide +kernel
theorem dL_law_1038 : decode cL_law 1038 = .ok (.ireturn, 1) := by decide +kernel
theorem dL_law_1039 : decode cL_law 1039 = .ok (.aload_n 1, 1) := by decide +kernel
theorem dL_law_1040 : decode cL_law 1040 = .ok (.aload_n 0, 1) := by decide +kernel
theorem dL_law_1041 : decode cL_law 1041 = .ok (.iload_n 3, 1) := by decide +kernel
theorem dL_law_1042 : decode cL_law 1042 = .ok (.iconst 1, 1) := by decide +kernel
theorem dL_law_1043 : decode cL_law 1043 = .ok (.iadd, 1) := by decide +kernel
theorem dL_law_1044 : decode cL_law 1044 = .ok (.iaload, 1) := by decide +kernel
theorem dL_law_1045 : decode cL_law 1045 = .ok (.aload_n 0, 1) := by decide +kernel
theorem dL_law_1046 : decode cL_law 1046 = .ok (.iload_n 3, 1) := by decide +kernel
theorem dL_law_1047 : decode cL_law 1047 = .ok (.iconst 2, 1) := by decide +kernel
theorem dL_law_1048 : decode cL_law 1048 = .ok (.iadd, 1) := by decide +kernel
theorem dL_law_1049 : decode cL_law 1049 = .ok (.iaload, 1) := by decide +kernel
theorem dL_law_1050 : decode cL_law 1050 = .ok (.invokevirtual 150, 3) := by decide +kernel
theorem dL_law_1053 : decode cL_law 1053 = .ok (.aload_n 2, 1) := by decide +kernel
theorem dL_law_1054 : decode cL_law 1054 = .ok (.aload_n 0, 1) := by decide +kernel
theorem dL_law_1055 : decode cL_law 1055 = .ok (.iload_n 3, 1) := by decide +kernel
theorem dL_law_1056 : decode cL_law 1056 = .ok (.iconst 1, 1) := by decide +kernel
theorem dL_law_1057 : decode cL_law 1057 = .ok (.iadd, 1) := by decide +kernel
theorem dL_law_1058 : decode cL_law 1058 = .ok (.iaload, 1) := by decide +kernel
theorem dL_law_1059 : decode cL_law 1059 = .ok (.aload_n 0, 1) := by decide +kernel
theorem dL_law_1060 : decode cL_law 1060 = .ok (.iload_n 3, 1) := by decide +kernel
theorem dL_law_1061 : decode cL_law 1061 = .ok (.iconst 2, 1) := by decide +kernel
theorem dL_law_1062 : decode cL_law 1062 = .ok (.iadd, 1) := by decide +kernel
theorem dL_law_1063 : decode cL_law 1063 = .ok (.iaload, 1) := by decide +kernel
theorem dL_law_1064 : decode cL_law 1064 = .ok (.invokevirtual 153, 3) := by decide +kernel
theorem dL_law_1067 : decode cL_law 1067 = .ok (.if_icmp .eq 377, 3) := by decide +kernel
theorem dL_law_1070 : decode cL_law 1070 = .ok (.iconst 0, 1) := by decide +kernel
theorem dL_law_1071 : decode cL_law 1071 = .ok (.ireturn, 1) := by decide +kernel
theorem dL_law_1072 : decode cL_law 1072 = .ok (.aload_n 1, 1) := by decide +kernel
theorem dL_law_1073 : decode cL_law 1073 = .ok (.invokevirtual 154, 3) := by decide +kernel
theorem dL_law_1076 : decode cL_law 1076 = .ok (.aload_n 2, 1) := by decide +kernel
theorem dL_law_1077 : decode cL_law 1077 = .ok (.invokevirtual 157, 3) := by decide +kernel
theorem dL_law_1080 : decode cL_law 1080 = .ok (.if_icmp .eq 364, 3) := by decide +kernel
theorem dL_law_1083 : decode cL_law 1083 = .ok (.iconst 0, 1) := by decide +kernel
theorem dL_law_1084 : decode cL_law 1084 = .ok (.ireturn, 1) := by decide +kernel
theorem dL_law_1085 : decode cL_law 1085 = .ok (.aload_n 1, 1) := by decide +kernel
theorem dL_law_1086 : decode cL_law 1086 = .ok (.invokevirtual 158, 3) := by decide +kernel
theorem dL_law_1089 : decode cL_law 1089 = .ok (.aload_n 2, 1) := by decide +kernel
theorem dL_law_1090 : decode cL_law 1090 = .ok (.invokevirtual 161, 3) := by decide +kernel
theorem dL_law_1093 : decode cL_law 1093 = .ok (.if_icmp .eq 351, 3) := by decide +kernel
theorem dL_law_1096 : decode cL_law 1096 = .ok (.iconst 0, 1) := by decide +kernel
theorem dL_law_1097 : decode cL_law 1097 = .ok (.ireturn, 1) := by decide +kernel
theorem dL_law_1098 : decode cL_law 1098 = .ok (.aload_n 1, 1) := by decide +kernel
theorem dL_law_1099 : decode cL_law 1099 = .ok (.aload_n 0, 1) := by decide +kernel
theorem dL_law_1100 : decode cL_law 1100 = .ok (.iload_n 3, 1) := by decide +kernel
theorem dL_law_1101 : decode cL_law 1101 = .ok (.iconst 1, 1) := by decide +kernel
theorem dL_law_1102 : decode cL_law 1102 = .ok (.iadd, 1) := by decide +kernel
theorem dL_law_1103 : decode cL_law 1103 = .ok (.iaload, 1) := by decide +kernel
theorem dL_law_1104 : decode cL_law 1104 = .ok (.aload_n 0, 1) := by decide +kernel
theorem dL_law_1105 : decode cL_law 1105 = .ok (.iload_n 3, 1) := by decide +kernel
theorem dL_law_1106 : decode cL_law 1106 = .ok (.iconst 2, 1) := by decide +kernel
theorem dL_law_1107 : decode cL_law 1107 = .ok (.iadd, 1) := by decide +kernel
theorem dL_law_1108 : decode cL_law 1108 = .ok (.iaload, 1) := by decide +kernel
theorem dL_law_1109 : decode cL_law 1109 = .ok (.invokevirtual 162, 3) := by decide +kernel
theorem dL_law_1112 : decode cL_law 1112 = .ok (.aload_n 2, 1) := by decide +kernel
theorem dL_law_1113 : decode cL_law 1113 = .ok (.aload_n 0, 1) := by decide +kernel
theorem dL_law_1114 : decode cL_law 1114 = .ok (.iload_n 3, 1) := by decide +kernel
theorem dL_law_1115 : decode cL_law 1115 = .ok (.iconst 1, 1) := by decide +kernel
theorem dL_law_1116 : decode cL_law 1116 = .ok (.iadd, 1) := by decide +kernel
theorem dL_law_1117 : decode cL_law 1117 = .ok (.iaload, 1) := by decide +kernel
theorem dL_law_1118 : decode cL_law 1118 = .ok (.aload_n 0, 1) := by decide +kernel
theorem dL_law_1119 : decode cL_law 1119 = .ok (.iload_n 3, 1) := by decide +kernel
theorem dL_law_1120 : decode cL_law 1120 = .ok (.iconst 2, 1) := by decide +kernel
theorem dL_law_1121 : decode cL_law 1121 = .ok (.iadd, 1) := by decide +kernel
theorem dL_law_1122 : decode cL_law 1122 = .ok (.iaload, 1) := by decide +kernel
theorem dL_law_1123 : decode cL_law 1123 = .ok (.invokevirtual 165, 3) := by decide +kernel
theorem dL_law_1126 : decode cL_law 1126 = .ok (.if_icmp .eq 318, 3) := by decide +kernel
theorem dL_law_1129 : decode cL_law 1129 = .ok (.iconst 0, 1) := by decide +kernel
theorem dL_law_1130 : decode cL_law 1130 = .ok (.ireturn, 1) := by decide +kernel
theorem dL_law_1131 : decode cL_law 1131 = .ok (.aload_n 1, 1) := by decide +kernel
theorem dL_law_1132 : decode cL_law 1132 = .ok (.aload_n 0, 1) := by decide +kernel
theorem dL_law_1133 : decode cL_law 1133 = .ok (.iload_n 3, 1) := by decide +kernel
theorem dL_law_1134 : decode cL_law 1134 = .ok (.iconst 1, 1) := by decide +kernel
theorem dL_law_1135 : decode cL_law 1135 = .ok (.iadd, 1) := by decide +kernel
theorem dL_law_1136 : decode cL_law 1136 = .ok (.iaload, 1) := by decide +kernel
theorem dL_law_1137 : decode cL_law 1137 = .ok (.aload_n 0, 1) := by decide +kernel
theorem dL_law_1138 : decode cL_law 1138 = .ok (.iload_n 3, 1) := by decide +kernel
theorem dL_law_1139 : decode cL_law 1139 = .ok (.iconst 2, 1) := by decide +kernel
theorem dL_law_1140 : decode cL_law 1140 = .ok (.iadd, 1) := by decide +kernel
theorem dL_law_1141 : decode cL_law 1141 = .ok (.iaload, 1) := by decide +kernel
theorem dL_law_1142 : decode cL_law 1142 = .ok (.invokevirtual 166, 3) := by decide +kernel
theorem dL_law_1145 : decode cL_law 1145 = .ok (.aload_n 2, 1) := by decide +kernel
theorem dL_law_1146 : decode cL_law 1146 = .ok (.aload_n 0, 1) := by decide +kernel
theorem dL_law_1147 : decode cL_law 1147 = .ok (.iload_n 3, 1) := by decide +kernel
theorem dL_law_1148 : decode cL_law 1148 = .ok (.iconst 1, 1) := by decide +kernel
theorem dL_law_1149 : decode cL_law 1149 = .ok (.iadd, 1) := by decide +kernel
theorem dL_law_1150 : decode cL_law 1150 = .ok (.iaload, 1) := by decide +kernel
theorem dL_law_1151 : decode cL_law 1151 = .ok (.aload_n 0, 1) := by decide +kernel
theorem dL_law_1152 : decode cL_law 1152 = .ok (.iload_n 3, 1) := by decide +kernel
theorem dL_law_1153 : decode cL_law 1153 = .ok (.iconst 2, 1) := by decide +kernel
theorem dL_law_1154 : decode cL_law 1154 = .ok (.iadd, 1) := by decide +kernel
theorem dL_law_1155 : decode cL_law 1155 = .ok (.iaload, 1) := by decide +kernel
theorem dL_law_1156 : decode cL_law 1156 = .ok (.invokevirtual 169, 3) := by decide +kernel
theorem dL_law_1159 : decode cL_law 1159 = .ok (.if_icmp .eq 285, 3) := by decide +kernel
theorem dL_law_1162 : decode cL_law 1162 = .ok (.iconst 0, 1) := by decide +kernel
theorem dL_law_1163 : decode cL_law 1163 = .ok (.ireturn, 1) := by decide +kernel
theorem dL_law_1164 : decode cL_law 1164 = .ok (.aload_n 1, 1) := by decide +kernel
theorem dL_law_1165 : decode cL_law 1165 = .ok (.aload_n 0, 1) := by decide +kernel
theorem dL_law_1166 : decode cL_law 1166 = .ok (.iload_n 3, 1) := by decide +kernel
theorem dL_law_1167 : decode cL_law 1167 = .ok (.iconst 1, 1) := by decide +kernel
theorem dL_law_1168 : decode cL_law 1168 = .ok (.iadd, 1) := by decide +kernel
theorem dL_law_1169 : decode cL_law 1169 = .ok (.iaload, 1) := by decide +kernel
theorem dL_law_1170 : decode cL_law 1170 = .ok (.aload_n 0, 1) := by decide +kernel
theorem dL_law_1171 : decode cL_law 1171 = .ok (.iload_n 3, 1) := by decide +kernel
theorem dL_law_1172 : decode cL_law 1172 = .ok (.iconst 2, 1) := by decide +kernel
theorem dL_law_1173 : decode cL_law 1173 = .ok (.iadd, 1) := by decide +kernel
theorem dL_law_1174 : decode cL_law 1174 = .ok (.iaload, 1) := by decide +kernel
theorem dL_law_1175 : decode cL_law 1175 = .ok (.aload_n 0, 1) := by decide +kernel
theorem dL_law_1176 : decode cL_law 1176 = .ok (.iload_n 3, 1) := by decide +kernel
theorem dL_law_1177 : decode cL_law 1177 = .ok (.iconst 3, 1) := by decide +kernel
theorem dL_law_1178 : decode cL_law 1178 = .ok (.iadd, 1) := by decide +kernel
theorem dL_law_1179 : decode cL_law 1179 = .ok (.iaload, 1) := by decide +kernel
theorem dL_law_1180 : decode cL_law 1180 = .ok (.invokevirtual 170, 3) := by decide +kernel
theorem dL_law_1183 : decode cL_law 1183 = .ok (.aload_n 2, 1) := by decide +kernel
theorem dL_law_1184 : decode cL_law 1184 = .ok (.aload_n 0, 1) := by decide +kernel
theorem dL_law_1185 : decode cL_law 1185 = .ok (.iload_n 3, 1) := by decide +kernel
theorem dL_law_1186 : decode cL_law 1186 = .ok (.iconst 1, 1) := by decide +kernel
theorem dL_law_1187 : decode cL_law 1187 = .ok (.iadd, 1) := by decide +kernel
theorem dL_law_1188 : decode cL_law 1188 = .ok (.iaload, 1) := by decide +kernel
theorem dL_law_1189 : decode cL_law 1189 = .ok (.aload_n 0, 1) := by decide +kernel
theorem dL_law_1190 : decode cL_law 1190 = .ok (.iload_n 3, 1) := by decide +kernel
theorem dL_law_1191 : decode cL_law 1191 = .ok (.iconst 2, 1) := by decide +kernel
theorem dL_law_1192 : decode cL_law 1192 = .ok (.iadd, 1) := by decide +kernel
theorem dL_law_1193 : decode cL_law 1193 = .ok (.iaload, 1) := by decide +kernel
theorem dL_law_1194 : decode cL_law 1194 = .ok (.aload_n 0, 1) := by decide +kernel
theorem dL_law_1195 : decode cL_law 1195 = .ok (.iload_n 3, 1) := by decide +kernel
theorem dL_law_1196 : decode cL_law 1196 = .ok (.iconst 3, 1) := by decide +kernel
theorem dL_law_1197 : decode cL_law 1197 = .ok (.iadd, 1) := by decide +kernel
theorem dL_law_1198 : decode cL_law 1198 = .ok (.iaload, 1) := by decide +kernel
theorem dL_law_1199 : decode cL_law 1199 = .ok (.invokevirtual 173, 3) := by decide +kernel
theorem dL_law_1202 : decode cL_law 1202 = .ok (.if_icmp .eq 242, 3) := by decide +kernel
theorem dL_law_1205 : decode cL_law 1205 = .ok (.iconst 0, 1) := by decide +kernel
theorem dL_law_1206 : decode cL_law 1206 = .ok (.ireturn, 1) := by decide +kernel
theorem dL_law_1207 : decode cL_law 1207 = .ok (.aload_n 1, 1) := by decide +kernel
theorem dL_law_1208 : decode cL_law 1208 = .ok (.aload_n 0, 1) := by decide +kernel
theorem dL_law_1209 : decode cL_law 1209 = .ok (.iload_n 3, 1) := by decide +kernel
theorem dL_law_1210 : decode cL_law 1210 = .ok (.iconst 1, 1) := by decide +kernel
theorem dL_law_1211 : decode cL_law 1211 = .ok (.iadd, 1) := by decide +kernel
theorem dL_law_1212 : decode cL_law 1212 = .ok (.iaload, 1) := by decide +kernel
theorem dL_law_1213 : decode cL_law 1213 = .ok (.aload_n 0, 1) := by decide +kernel
theorem dL_law_1214 : decode cL_law 1214 = .ok (.iload_n 3, 1) := by decide +kernel
theorem dL_law_1215 : decode cL_law 1215 = .ok (.iconst 2, 1) := by decide +kernel
theorem dL_law_1216 : decode cL_law 1216 = .ok (.iadd, 1) := by decide +kernel
theorem dL_law_1217 : decode cL_law 1217 = .ok (.iaload, 1) := by decide +kernel
theorem dL_law_1218 : decode cL_law 1218 = .ok (.aload_n 0, 1) := by decide +kernel
theorem dL_law_1219 : decode cL_law 1219 = .ok (.iload_n 3, 1) := by decide +kernel
theorem dL_law_1220 : decode cL_law 1220 = .ok (.iconst 3, 1) := by decide +kernel
theorem dL_law_1221 : decode cL_law 1221 = .ok (.iadd, 1) := by decide +kernel
theorem dL_law_1222 : decode cL_law 1222 = .ok (.iaload, 1) := by decide +kernel
theorem dL_law_1223 : decode cL_law 1223 = .ok (.invokevirtual 174, 3) := by decide +kernel
theorem dL_law_1226 : decode cL_law 1226 = .ok (.aload_n 2, 1) := by decide +kernel
theorem dL_law_1227 : decode cL_law 1227 = .ok (.aload_n 0, 1) := by decide +kernel
theorem dL_law_1228 : decode cL_law 1228 = .ok (.iload_n 3, 1) := by decide +kernel
theorem dL_law_1229 : decode cL_law 1229 = .ok (.iconst 1, 1) := by decide +kernel
theorem dL_law_1230 : decode cL_law 1230 = .ok (.iadd, 1) := by decide +kernel
theorem dL_law_1231 : decode cL_law 1231 = .ok (.iaload, 1) := by decide +kernel
theorem dL_law_1232 : decode cL_law 1232 = .ok (.aload_n 0, 1) := by decide +kernel
theorem dL_law_1233 : decode cL_law 1233 = .ok (.iload_n 3, 1) := by decide +kernel
theorem dL_law_1234 : decode cL_law 1234 = .ok (.iconst 2, 1) := by decide +kernel
theorem dL_law_1235 : decode cL_law 1235 = .ok (.iadd, 1) := by decide +kernel
theorem dL_law_1236 : decode cL_law 1236 = .ok (.iaload, 1) := by decide +kernel
theorem dL_law_1237 : decode cL_law 1237 = .ok (.aload_n 0, 1) := by decide +kernel
theorem dL_law_1238 : decode cL_law 1238 = .ok (.iload_n 3, 1) := by decide +kernel
theorem dL_law_1239 : decode cL_law 1239 = .ok (.iconst 3, 1) := by decide +kernel
theorem dL_law_1240 : decode cL_law 1240 = .ok (.iadd, 1) := by decide +kernel
theorem dL_law_1241 : decode cL_law 1241 = .ok (.iaload, 1) := by decide +kernel
theorem dL_law_1242 : decode cL_law 1242 = .ok (.invokevirtual 177, 3) := by decide +kernel
theorem dL_law_1245 : decode cL_law 1245 = .ok (.if_icmp .eq 199, 3) := by decide +kernel
theorem dL_law_1248 : decode cL_law 1248 = .ok (.iconst 0, 1) := by decide +kernel
theorem dL_law_1249 : decode cL_law 1249 = .ok (.ireturn, 1) := by decide +kernel
theorem dL_law_1250 : decode cL_law 1250 = .ok (.aload_n 1, 1) := by decide +kernel
theorem dL_law_1251 : decode cL_law 1251 = .ok (.aload_n 0, 1) := by decide +kernel
theorem dL_law_1252 : decode cL_law 1252 = .ok (.iload_n 3, 1) := by decide +kernel
theorem dL_law_1253 : decode cL_law 1253 = .ok (.iconst 1, 1) := by decide +kernel
theorem dL_law_1254 : decode cL_law 1254 = .ok (.iadd, 1) := by decide +kernel
theorem dL_law_1255 : decode cL_law 1255 = .ok (.iaload, 1) := by decide +kernel
theorem dL_law_1256 : decode cL_law 1256 = .ok (.aload_n 0, 1) := by decide +kernel
theorem dL_law_1257 : decode cL_law 1257 = .ok (.iload_n 3, 1) := by decide +kernel
theorem dL_law_1258 : decode cL_law 1258 = .ok (.iconst 2, 1) := by decide +kernel
theorem dL_law_1259 : decode cL_law 1259 = .ok (.iadd, 1) := by decide +kernel
theorem dL_law_1260 : decode cL_law 1260 = .ok (.iaload, 1) := by decide +kernel
theorem dL_law_1261 : decode cL_law 1261 = .ok (.aload_n 0, 1) := by decide +kernel
theorem dL_law_1262 : decode cL_law 1262 = .ok (.iload_n 3, 1) := by decide +kernel
theorem dL_law_1263 : decode cL_law 1263 = .ok (.iconst 3, 1) := by decide +kernel
theorem dL_law_1264 : decode cL_law 1264 = .ok (.iadd, 1) := by decide +kernel
theorem dL_law_1265 : decode cL_law 1265 = .ok (.iaload, 1) := by decide +kernel
theorem dL_law_1266 : decode cL_law 1266 = .ok (.aload_n 0, 1) := by decide +kernel
theorem dL_law_1267 : decode cL_law 1267 = .ok (.iload_n 3, 1) := by decide +kernel
theorem dL_law_1268 : decode cL_law 1268 = .ok (.iconst 4, 1) := by decide +kernel
theorem dL_law_1269 : decode cL_law 1269 = .ok (.iadd, 1) := by decide +kernel
theorem dL_law_1270 : decode cL_law 1270 = .ok (.iaload, 1) := by decide +kernel
theorem dL_law_1271 : decode cL_law 1271 = .ok (.aload_n 0, 1) := by decide +kernel
theorem dL_law_1272 : decode cL_law 1272 = .ok (.iload_n 3, 1) := by decide +kernel
theorem dL_law_1273 : decode cL_law 1273 = .ok (.iconst 5, 1) := by decide +kernel
theorem dL_law_1274 : decode cL_law 1274 = .ok (.iadd, 1) := by decide +kernel
theorem dL_law_1275 : decode cL_law 1275 = .ok (.iaload, 1) := by decide +kernel
theorem dL_law_1276 : decode cL_law 1276 = .ok (.invokevirtual 178, 3) := by decide +kernel
theorem dL_law_1279 : decode cL_law 1279 = .ok (.aload_n 2, 1) := by decide +kernel
theorem dL_law_1280 : decode cL_law 1280 = .ok (.aload_n 0, 1) := by decide +kernel
theorem dL_law_1281 : decode cL_law 1281 = .ok (.iload_n 3, 1) := by decide +kernel
theorem dL_law_1282 : decode cL_law 1282 = .ok (.iconst 1, 1) := by decide +kernel
theorem dL_law_1283 : decode cL_law 1283 = .ok (.iadd, 1) := by decide +kernel
theorem dL_law_1284 : decode cL_law 1284 = .ok (.iaload, 1) := by decide +kernel
theorem dL_law_1285 : decode cL_law 1285 = .ok (.aload_n 0, 1) := by decide +kernel
theorem dL_law_1286 : decode cL_law 1286 = .ok (.iload_n 3, 1) := by decide +kernel
theorem dL_law_1287 : decode cL_law 1287 = .ok (.iconst 2, 1) := by decide +kernel
theorem dL_law_1288 : decode cL_law 1288 = .ok (.iadd, 1) := by decide +kernel
theorem dL_law_1289 : decode cL_law 1289 = .ok (.iaload, 1) := by decide +kernel
theorem dL_law_1290 : decode cL_law 1290 = .ok (.aload_n 0, 1) := by decide +kernel
theorem dL_law_1291 : decode cL_law 1291 = .ok (.iload_n 3, 1) := by decide +kernel
theorem dL_law_1292 : decode cL_law 1292 = .ok (.iconst 3, 1) := by decide +kernel
theorem dL_law_1293 : decode cL_law 1293 = .ok (.iadd, 1) := by decide +kernel
theorem dL_law_1294 : decode cL_law 1294 = .ok (.iaload, 1) := by decide +kernel
theorem dL_law_1295 : decode cL_law 1295 = .ok (.aload_n 0, 1) := by decide +kernel
theorem dL_law_1296 : decode cL_law 1296 = .ok (.iload_n 3, 1) := by decide +kernel
theorem dL_law_1297 : decode cL_law 1297 = .ok (.iconst 4, 1) := by decide +kernel
theorem dL_law_1298 : decode cL_law 1298 = .ok (.iadd, 1) := by decide +kernel
theorem dL_law_1299 : decode cL_law 1299 = .ok (.iaload, 1) := by decide +kernel
theorem dL_law_1300 : decode cL_law 1300 = .ok (.aload_n 0, 1) := by decide +kernel
theorem dL_law_1301 : decode cL_law 1301 = .ok (.iload_n 3, 1) := by decide +kernel
theorem dL_law_1302 : decode cL_law 1302 = .ok (.iconst 5, 1) := by decide +kernel
theorem dL_law_1303 : decode cL_law 1303 = .ok (.iadd, 1) := by decide +kernel
theorem dL_law_1304 : decode cL_law 1304 = .ok (.iaload, 1) := by decide +kernel
theorem dL_law_1305 : decode cL_law 1305 = .ok (.invokevirtual 182, 3) := by decide +kernel
theorem dL_law_1308 : decode cL_law 1308 = .ok (.if_icmp .eq 136, 3) := by decide +kernel
theorem dL_law_1311 : decode cL_law 1311 = .ok (.iconst 0, 1) := by decide +kernel
theorem dL_law_1312 : decode cL_law 1312 = .ok (.ireturn, 1) := by decide +kernel
theorem dL_law_1313 : decode cL_law 1313 = .ok (.aload_n 1, 1) := by decide +kernel
theorem dL_law_1314 : decode cL_law 1314 = .ok (.aload_n 0, 1) := by decide +kernel
theorem dL_law_1315 : decode cL_law 1315 = .ok (.iload_n 3, 1) := by decide +kernel
theorem dL_law_1316 : decode cL_law 1316 = .ok (.iconst 1, 1) := by decide +kernel
theorem dL_law_1317 : decode cL_law 1317 = .ok (.iadd, 1) := by decide +kernel
theorem dL_law_1318 : decode cL_law 1318 = .ok (.iaload, 1) := by decide +kernel
theorem dL_law_1319 : decode cL_law 1319 = .ok (.invokevirtual 183, 3) := by decide +kernel
theorem dL_law_1322 : decode cL_law 1322 = .ok (.aload_n 2, 1) := by decide +kernel
theorem dL_law_1323 : decode cL_law 1323 = .ok (.aload_n 0, 1) := by decide +kernel
theorem dL_law_1324 : decode cL_law 1324 = .ok (.iload_n 3, 1) := by decide +kernel
theorem dL_law_1325 : decode cL_law 1325 = .ok (.iconst 1, 1) := by decide +kernel
theorem dL_law_1326 : decode cL_law 1326 = .ok (.iadd, 1) := by decide +kernel
theorem dL_law_1327 : decode cL_law 1327 = .ok (.iaload, 1) := by decide +kernel
theorem dL_law_1328 : decode cL_law 1328 = .ok (.invokevirtual 186, 3) := by decide +kernel
theorem dL_law_1331 : decode cL_law 1331 = .ok (.if_icmp .eq 113, 3) := by decide +kernel
theorem dL_law_1334 : decode cL_law 1334 = .ok (.iconst 0, 1) := by decide +kernel
theorem dL_law_1335 : decode cL_law 1335 = .ok (.ireturn, 1) := by decide +kernel
theorem dL_law_1336 : decode cL_law 1336 = .ok (.aload_n 1, 1) := by decide +kernel
theorem dL_law_1337 : decode cL_law 1337 = .ok (.aload_n 0, 1) := by decide +kernel
theorem dL_law_1338 : decode cL_law 1338 = .ok (.iload_n 3, 1) := by decide +kernel
theorem dL_law_1339 : decode cL_law 1339 = .ok (.iconst 1, 1) := by decide +kernel
theorem dL_law_1340 : decode cL_law 1340 = .ok (.iadd, 1) := by decide +kernel
theorem dL_law_1341 : decode cL_law 1341 = .ok (.iaload, 1) := by decide +kernel
theorem dL_law_1342 : decode cL_law 1342 = .ok (.invokevirtual 187, 3) := by decide +kernel
theorem dL_law_1345 : decode cL_law 1345 = .ok (.aload_n 2, 1) := by decide +kernel
theorem dL_law_1346 : decode cL_law 1346 = .ok (.aload_n 0, 1) := by decide +kernel
theorem dL_law_1347 : decode cL_law 1347 = .ok (.iload_n 3, 1) := by decide +kernel
theorem dL_law_1348 : decode cL_law 1348 = .ok (.iconst 1, 1) := by decide +kernel
theorem dL_law_1349 : decode cL_law 1349 = .ok (.iadd, 1) := by decide +kernel
theorem dL_law_1350 : decode cL_law 1350 = .ok (.iaload, 1) := by decide +kernel
theorem dL_law_1351 : decode cL_law 1351 = .ok (.invokevirtual 190, 3) := by decide +kernel
theorem dL_law_1354 : decode cL_law 1354 = .ok (.if_icmp .eq 90, 3) := by decide +kernel
theorem dL_law_1357 : decode cL_law 1357 = .ok (.iconst 0, 1) := by decide +kernel
theorem dL_law_1358 : decode cL_law 1358 = .ok (.ireturn, 1) := by decide +kernel
theorem dL_law_1359 : decode cL_law 1359 = .ok (.aload_n 1, 1) := by decide +kernel
theorem dL_law_1360 : decode cL_law 1360 = .ok (.invokevirtual 191, 3) := by decide +kernel
theorem dL_law_1363 : decode cL_law 1363 = .ok (.aload_n 2, 1) := by decide +kernel
theorem dL_law_1364 : decode cL_law 1364 = .ok (.invokevirtual 194, 3) := by decide +kernel
theorem dL_law_1367 : decode cL_law 1367 = .ok (.if_icmp .eq 77, 3) := by decide +kernel
theorem dL_law_1370 : decode cL_law 1370 = .ok (.iconst 0, 1) := by decide +kernel
theorem dL_law_1371 : decode cL_law 1371 = .ok (.ireturn, 1) := by decide +kernel
theorem dL_law_1372 : decode cL_law 1372 = .ok (.aload_n 1, 1) := by decide +kernel
theorem dL_law_1373 : decode cL_law 1373 = .ok (.invokevirtual 195, 3) := by decide +kernel
theorem dL_law_1376 : decode cL_law 1376 = .ok (.aload_n 2, 1) := by decide +kernel
theorem dL_law_1377 : decode cL_law 1377 = .ok (.invokevirtual 198, 3) := by decide +kernel
theorem dL_law_1380 : decode cL_law 1380 = .ok (.if_icmp .eq 64, 3) := by decide +kernel
theorem dL_law_1383 : decode cL_law 1383 = .ok (.iconst 0, 1) := by decide +kernel
theorem dL_law_1384 : decode cL_law 1384 = .ok (.ireturn, 1) := by decide +kernel
theorem dL_law_1385 : decode cL_law 1385 = .ok (.aload_n 1, 1) := by decide +kernel
theorem dL_law_1386 : decode cL_law 1386 = .ok (.invokevirtual 199, 3) := by decide +kernel
theorem dL_law_1389 : decode cL_law 1389 = .ok (.aload_n 2, 1) := by decide +kernel
theorem dL_law_1390 : decode cL_law 1390 = .ok (.invokevirtual 202, 3) := by decide +kernel
theorem dL_law_1393 : decode cL_law 1393 = .ok (.if_icmp .eq 51, 3) := by decide +kernel
theorem dL_law_1396 : decode cL_law 1396 = .ok (.iconst 0, 1) := by decide +kernel
theorem dL_law_1397 : decode cL_law 1397 = .ok (.ireturn, 1) := by decide +kernel
theorem dL_law_1398 : decode cL_law 1398 = .ok (.aload_n 1, 1) := by decide +kernel
theorem dL_law_1399 : decode cL_law 1399 = .ok (.aload_n 0, 1) := by decide +kernel
theorem dL_law_1400 : decode cL_law 1400 = .ok (.iload_n 3, 1) := by decide +kernel
theorem dL_law_1401 : decode cL_law 1401 = .ok (.iconst 1, 1) := by decide +kernel
theorem dL_law_1402 : decode cL_law 1402 = .ok (.iadd, 1) := by decide +kernel
theorem dL_law_1403 : decode cL_law 1403 = .ok (.iaload, 1) := by decide +kernel
theorem dL_law_1404 : decode cL_law 1404 = .ok (.invokevirtual 203, 3) := by decide +kernel
theorem dL_law_1407 : decode cL_law 1407 = .ok (.aload_n 2, 1) := by decide +kernel
theorem dL_law_1408 : decode cL_law 1408 = .ok (.aload_n 0, 1) := by decide +kernel
theorem dL_law_1409 : decode cL_law 1409 = .ok (.iload_n 3, 1) := by decide +kernel
theorem dL_law_1410 : decode cL_law 1410 = .ok (.iconst 1, 1) := by decide +kernel
theorem dL_law_1411 : decode cL_law 1411 = .ok (.iadd, 1) := by decide +kernel
theorem dL_law_1412 : decode cL_law 1412 = .ok (.iaload, 1) := by decide +kernel
theorem dL_law_1413 : decode cL_law 1413 = .ok (.invokevirtual 206, 3) := by decide +kernel
theorem dL_law_1416 : decode cL_law 1416 = .ok (.if_icmp .eq 28, 3) := by decide +kernel
theorem dL_law_1419 : decode cL_law 1419 = .ok (.iconst 0, 1) := by decide +kernel
theorem dL_law_1420 : decode cL_law 1420 = .ok (.ireturn, 1) := by decide +kernel
theorem dL_law_1421 : decode cL_law 1421 = .ok (.aload_n 1, 1) := by decide +kernel
theorem dL_law_1422 : decode cL_law 1422 = .ok (.aload_n 0, 1) := by decide +kernel
theorem dL_law_1423 : decode cL_law 1423 = .ok (.iload_n 3, 1) := by decide +kernel
theorem dL_law_1424 : decode cL_law 1424 = .ok (.iconst 1, 1) := by decide +kernel
theorem dL_law_1425 : decode cL_law 1425 = .ok (.iadd, 1) := by decide +kernel
theorem dL_law_1426 : decode cL_law 1426 = .ok (.iaload, 1) := by decide +kernel
theorem dL_law_1427 : decode cL_law 1427 = .ok (.invokevirtual 207, 3) := by decide +kernel
theorem dL_law_1430 : decode cL_law 1430 = .ok (.aload_n 2, 1) := by decide +kernel
theorem dL_law_1431 : decode cL_law 1431 = .ok (.aload_n 0, 1) := by decide +kernel
theorem dL_law_1432 : decode cL_law 1432 = .ok (.iload_n 3, 1) := by decide +kernel
theorem dL_law_1433 : decode cL_law 1433 = .ok (.iconst 1, 1) := by decide +kernel
theorem dL_law_1434 : decode cL_law 1434 = .ok (.iadd, 1) := by decide +kernel
theorem dL_law_1435 : decode cL_law 1435 = .ok (.iaload, 1) := by decide +kernel
theorem dL_law_1436 : decode cL_law 1436 = .ok (.invokevirtual 210, 3) := by decide +kernel
theorem dL_law_1439 : decode cL_law 1439 = .ok (.if_icmp .eq 5, 3) := by decide +kernel
theorem dL_law_1442 : decode cL_law 1442 = .ok (.iconst 0, 1) := by decide +kernel
theorem dL_law_1443 : decode cL_law 1443 = .ok (.ireturn, 1) := by decide +kernel
theorem dL_law_1444 : decode cL_law 1444 = .ok (.iinc 3 6, 3) := by decide +kernel
theorem dL_law_1447 : decode cL_law 1447 = .ok (.goto (-1429), 3) := by decide +kernel
theorem dL_law_1450 : decode cL_law 1450 = .ok (.iconst 1, 1) := by decide +kernel
theorem dL_law_1451 : decode cL_law 1451 = .ok (.ireturn, 1) := by decide +kernel
end
section
/-! A small machine over a heap of numbered cells: what a method of the system does, as a function. -/
abbrev am_H : Type := Nat × (Nat → Nat → Value)
abbrev am_C : Type := Nat × List Value × List Value × am_H
abbrev am_E : Type := am_MI → List Value → am_H → Option (Option Value × am_H)
def am_kd (a : Nat) : Nat × Nat := am_kl.getD a (99, 0)
def am_sk (a k : Nat) : Option Nat := (am_rl.getD a []).getD k none
def am_lkF (own idx : Nat) : Option (Nat × Nat) := (am_F.find? (fun e => e.1 == own && e.2.1 == idx)).map (fun e => (e.2.2.1, e.2.2.2.1))
def am_lkM (own idx : Nat) : Option (am_MI × Nat × Nat) := ((am_M own).find? (fun e => e.2.1 == idx)).map (fun e => (e.2.2.1, e.2.2.2.1, e.2.2.2.2.1))
def am_lkX (own idx : Nat) : Option Nat := (am_X.find? (fun e => e.1 == own && e.2.1 == idx)).map (fun e => e.2.2.1)
def am_lkL (own idx : Nat) : Option Nat := (am_L.find? (fun e => e.1 == own && e.2.1 == idx)).map (fun e => e.2.2.1)
def am_lkS (own idx : Nat) : Option Nat := (am_S.find? (fun e => e.1 == own && e.2.1 == idx)).map (fun e => e.2.2.1)
def am_lkN (own idx : Nat) : Option Int := (am_N.find? (fun e => e.1 == own && e.2.1 == idx)).map (fun e => e.2.2.1)
def am_ty : Nat → Nat → FieldType := fun c k => match c with
  | 0 => tyX0 k
  | 1 => tyX1 k
  | 2 => tyX2 k
  | 3 => tyX3 k
  | 4 => tyX4 k
  | 5 => tyX5 k
  | 6 => tyX6 k
  | 7 => tyX7 k
  | _ => tyX8 k
def am_T : Nat → u_T := fun c => match c with
  | 0 => TX0
  | 1 => TX1
  | 2 => TX2
  | 3 => TX3
  | 4 => TX4
  | 5 => TX5
  | 6 => TX6
  | 7 => TX7
  | _ => TX8
def am_fit (ty : FieldType) (v : Value) : Bool := match ty, v with
  | .int, .int _ => true
  | .boolean, .int x => x == 0 || x == 1
  | .object _, .ref _ => true
  | .array _, .ref _ => true
  | _, _ => false
def am_up (g : Nat → Nat → Value) (a k : Nat) (v : Value) : Nat → Nat → Value := fun a' k' => if a' = a ∧ k' = k then v else g a' k'
def am_dv (n : Nat) : Nat → Value := fun k => match (am_kd n).1 with
  | 0 => .int 0
  | 1 => .null
  | 2 => .null
  | 3 => .null
  | c + 4 => defaultValue (am_ty c k)
def am_new (g : Nat → Nat → Value) (n : Nat) : Nat → Nat → Value := fun a' k' => if a' = n then am_dv n k' else g a' k'
def am_cpy (g : Nat → Nat → Value) (a sp b dp n : Nat) : Nat → Nat → Value := fun a' k' => if a' = b ∧ dp ≤ k' ∧ k' < dp + n then g a (sp + (k' - dp)) else g a' k'
def am_iv (v : Option Value) (k : Int32 → Option am_C) : Option am_C := match v with
  | some (.int x) => k x
  | _ => none
def am_rv (v : Option Value) (k : Nat → Option am_C) : Option am_C := match v with
  | some (.ref x) => k x
  | _ => none
def am_1i (st : List Value) (k : Int32 → List Value → Option am_C) : Option am_C := match st with
  | .int x :: r => k x r
  | _ => none
def am_2i (st : List Value) (k : Int32 → Int32 → List Value → Option am_C) : Option am_C := match st with
  | .int y :: .int x :: r => k x y r
  | _ => none
def am_1r (st : List Value) (k : Nat → List Value → Option am_C) : Option am_C := match st with
  | .ref x :: r => k x r
  | _ => none
def am_2l (st : List Value) (k : Int64 → Int64 → List Value → Option am_C) : Option am_C := match st with
  | .long y :: .long x :: r => k x y r
  | _ => none
def am_tg (pc : Nat) (off : Int) (k : Nat → Option am_C) : Option am_C := if 0 ≤ (pc : Int) + off then k ((pc : Int) + off).toNat else none
def am_cm (c : Jvm.ClassFile.Cond) (x y : Int32) : Bool := match c with
  | .eq => decide (x = y)
  | .ne => decide (¬ x = y)
  | .lt => decide (x < y)
  | .ge => decide (y ≤ x)
  | .gt => decide (y < x)
  | .le => decide (x ≤ y)
def am_in (i : Int32) (n : Nat) : Bool := !(decide (i < 0) || decide (n ≤ i.toNatClampNeg))
/-- one instruction that neither calls nor returns; ini: we are in a constructor -/
def am_stp (own : Nat) (ini : Bool) (i : Instr) (pc : Nat) (al st : List Value) (hp : am_H) : Option am_C :=
  match i with
  | .iload_n k => am_iv al[(k : Nat)]? fun x => some (pc + 1, al, .int x :: st, hp)
  | .iload k => am_iv al[k]? fun x => some (pc + 2, al, .int x :: st, hp)
  | .aload_n k => am_rv al[(k : Nat)]? fun x => some (pc + 1, al, .ref x :: st, hp)
  | .aload k => am_rv al[k]? fun x => some (pc + 2, al, .ref x :: st, hp)
  | .istore_n k => am_1i st fun x r => if (k : Nat) < al.length then some (pc + 1, al.set k (.int x), r, hp) else none
  | .istore k => am_1i st fun x r => if k < al.length then some (pc + 2, al.set k (.int x), r, hp) else none
  | .astore_n k => am_1r st fun x r => if (k : Nat) < al.length then some (pc + 1, al.set k (.ref x), r, hp) else none
  | .astore k => am_1r st fun x r => if k < al.length then some (pc + 2, al.set k (.ref x), r, hp) else none
  | .iinc k n => am_iv al[k]? fun x => some (pc + 3, al.set k (.int (x + Int32.ofInt n)), st, hp)
  | .iconst n => some (pc + 1, al, .int (Int32.ofInt n) :: st, hp)
  | .bipush n => some (pc + 2, al, .int (Int8.ofInt n).toInt32 :: st, hp)
  | .sipush n => some (pc + 3, al, .int (Int16.ofInt n).toInt32 :: st, hp)
  | .ldc idx => match am_lkN own idx with
    | some v => some (pc + 2, al, .int (Int32.ofInt v) :: st, hp)
    | none => match am_lkS own idx with
      | some t => some (pc + 2, al, .ref (1000000 + t) :: st, hp)
      | none => none
  | .ldc_w idx => match am_lkN own idx with
    | some v => some (pc + 3, al, .int (Int32.ofInt v) :: st, hp)
    | none => match am_lkS own idx with
      | some t => some (pc + 3, al, .ref (1000000 + t) :: st, hp)
      | none => none
  | .dup => match st with
    | v :: r => if v.category = 1 then some (pc + 1, al, v :: v :: r, hp) else none
    | _ => none
  | .dup2 => match st with
    | v :: w :: r => if v.category = 1 ∧ w.category = 1 then some (pc + 1, al, v :: w :: v :: w :: r, hp) else none
    | _ => none
  | .pop => match st with
    | v :: r => if v.category = 1 then some (pc + 1, al, r, hp) else none
    | _ => none
  | .iadd => am_2i st fun x y r => some (pc + 1, al, .int (x + y) :: r, hp)
  | .isub => am_2i st fun x y r => some (pc + 1, al, .int (x - y) :: r, hp)
  | .imul => am_2i st fun x y r => some (pc + 1, al, .int (x * y) :: r, hp)
  | .idiv => am_2i st fun x y r => if y = 0 then none else some (pc + 1, al, .int (x / y) :: r, hp)
  | .irem => am_2i st fun x y r => if y = 0 then none else some (pc + 1, al, .int (x - x / y * y) :: r, hp)
  | .iand => am_2i st fun x y r => some (pc + 1, al, .int (x &&& y) :: r, hp)
  | .ior => am_2i st fun x y r => some (pc + 1, al, .int (x ||| y) :: r, hp)
  | .ixor => am_2i st fun x y r => some (pc + 1, al, .int (x ^^^ y) :: r, hp)
  | .ishl => am_2i st fun x y r => some (pc + 1, al, .int (x <<< (y &&& 31)) :: r, hp)
  | .ishr => am_2i st fun x y r => some (pc + 1, al, .int (x >>> (y &&& 31)) :: r, hp)
  | .iushr => am_2i st fun x y r => some (pc + 1, al, .int (x.toUInt32 >>> (y.toUInt32 &&& Int32.toUInt32 31)).toInt32 :: r, hp)
  | .i2b => am_1i st fun x r => some (pc + 1, al, .int x.toInt8.toInt32 :: r, hp)
  | .i2s => am_1i st fun x r => some (pc + 1, al, .int x.toInt16.toInt32 :: r, hp)
  | .i2l => am_1i st fun x r => some (pc + 1, al, .long x.toInt64 :: r, hp)
  | .ladd => am_2l st fun x y r => some (pc + 1, al, .long (x + y) :: r, hp)
  | .lcmp => am_2l st fun x y r => some (pc + 1, al, .int (lg_cmp x y) :: r, hp)
  | .goto off => am_tg pc off fun t => some (t, al, st, hp)
  | .if_icmp c off => am_2i st fun x y r => am_tg pc off fun t => if am_cm c x y = true then some (t, al, r, hp) else some (pc + 3, al, r, hp)
  | .ifCond c off => am_1i st fun x r => am_tg pc off fun t => if am_cm c x 0 = true then some (t, al, r, hp) else some (pc + 3, al, r, hp)
  | .tableswitch d lo hi offs => am_1i st fun x r => if x.toInt < lo ∨ hi < x.toInt then am_tg pc d fun t => some (t, al, r, hp) else match offs[(x.toInt - lo).toNat]? with
    | some off => am_tg pc off fun t => some (t, al, r, hp)
    | none => none
  | .lookupswitch d ps => am_1i st fun x r => if (ps.toList.zip (ps.toList.drop 1)).all (fun (a, next) => a.1 < next.1) = true then am_tg pc (Op.lookupswitch.offset ps.toList d x.toInt) fun t => some (t, al, r, hp) else none
  | .getfield idx => am_1r st fun a r => match am_lkF own idx with
    | some (c, k) => if a < hp.1 ∧ (am_kd a).1 = 4 + c then some (pc + 3, al, hp.2 a k :: r, hp) else none
    | none => none
  | .putfield idx => match st with
    | v :: .ref a :: r => match am_lkF own idx with
      | some (c, k) => if a < hp.1 ∧ (am_kd a).1 = 4 + c ∧ am_fit (am_ty c k) v = true ∧ ((am_T c k).2.2.2 = true → ini = true ∧ own = c) then some (pc + 3, al, r, (hp.1, am_up hp.2 a k v)) else none
      | none => none
    | _ => none
  | .iaload => match st with
    | .int i :: .ref a :: r => if a < hp.1 ∧ (am_kd a).1 = 0 ∧ am_in i (am_kd a).2 = true then (match hp.2 a i.toNatClampNeg with
      | .int x => some (pc + 1, al, .int x :: r, hp)
      | _ => none) else none
    | _ => none
  | .iastore => match st with
    | .int x :: .int i :: .ref a :: r => if a < hp.1 ∧ (am_kd a).1 = 0 ∧ am_in i (am_kd a).2 = true then some (pc + 1, al, r, (hp.1, am_up hp.2 a i.toNatClampNeg (.int x))) else none
    | _ => none
  | .aaload => match st with
    | .int i :: .ref a :: r => if a < hp.1 ∧ 1 ≤ (am_kd a).1 ∧ (am_kd a).1 ≤ 3 ∧ am_in i (am_kd a).2 = true then (match hp.2 a i.toNatClampNeg with
      | .ref x => some (pc + 1, al, .ref x :: r, hp)
      | _ => none) else none
    | _ => none
  | .aastore => match st with
    | .ref v :: .int i :: .ref a :: r => if a < hp.1 ∧ am_in i (am_kd a).2 = true ∧ (((am_kd a).1 = 1 ∧ v < hp.1 ∧ (am_kd v).1 = 9) ∨ ((am_kd a).1 = 2 ∧ v < hp.1 ∧ (am_kd v).1 = 8) ∨ ((am_kd a).1 = 3 ∧ 1000000 ≤ v ∧ v < 1000015)) then some (pc + 1, al, r, (hp.1, am_up hp.2 a i.toNatClampNeg (.ref v))) else none
    | _ => none
  | .arraylength => am_1r st fun a r => if a < hp.1 ∧ (am_kd a).1 ≤ 3 then some (pc + 1, al, .int (am_kd a).2.toInt32 :: r, hp) else none
  | .new idx => match am_lkL own idx with
    | some c => if (am_kd hp.1).1 = 4 + c ∧ c < 9 then some (pc + 3, al, .ref hp.1 :: st, (hp.1 + 1, am_new hp.2 hp.1)) else none
    | none => none
  | .newarray .int => am_1i st fun x r => if (am_kd hp.1).1 = 0 ∧ (am_kd hp.1).2.toInt32 = x then some (pc + 2, al, .ref hp.1 :: r, (hp.1 + 1, am_new hp.2 hp.1)) else none
  | .anewarray idx => am_1i st fun x r => match am_lkL own idx with
    | some c => if (am_kd hp.1).2.toInt32 = x ∧ ((c = 5 ∧ (am_kd hp.1).1 = 1) ∨ (c = 4 ∧ (am_kd hp.1).1 = 2) ∨ (c = 99 ∧ (am_kd hp.1).1 = 3)) then some (pc + 3, al, .ref hp.1 :: r, (hp.1 + 1, am_new hp.2 hp.1)) else none
    | none => none
  | .invokespecial idx => match am_lkX own idx with
    | some 0 => am_1r st fun _ r => if (r.map fun v => v.category).sum ≤ 8 then some (pc + 3, al, r, hp) else none
    | _ => none
  | .invokevirtual idx => match am_lkX own idx with
    | some 1 => am_1r st fun a r => if 1000000 ≤ a ∧ a < 1000015 ∧ (r.map fun v => v.category).sum ≤ 8 then some (pc + 3, al, .int (nI (am_by.getD (a - 1000000) []).length) :: r, hp) else none
    | some 2 => (match st with
      | .int i :: .ref a :: r => if 1000000 ≤ a ∧ a < 1000015 ∧ am_in i (am_by.getD (a - 1000000) []).length = true ∧ (r.map fun v => v.category).sum ≤ 8 then some (pc + 3, al, .int (nI ((am_by.getD (a - 1000000) []).getD i.toNatClampNeg 0)) :: r, hp) else none
      | _ => none)
    | _ => none
  | .invokestatic idx => match am_lkX own idx with
    | some 3 => (match st with
      | .int n :: .int dp :: .ref b :: .int sp :: .ref a :: r => if a < hp.1 ∧ b < hp.1 ∧ (am_kd a).1 = 0 ∧ (am_kd b).1 = 0 ∧ ¬ sp < 0 ∧ ¬ dp < 0 ∧ ¬ n < 0 ∧ sp.toNatClampNeg + n.toNatClampNeg ≤ (am_kd a).2 ∧ dp.toNatClampNeg + n.toNatClampNeg ≤ (am_kd b).2 ∧ (r.map fun v => v.category).sum ≤ 8 then some (pc + 3, al, r, (hp.1, am_cpy hp.2 a sp.toNatClampNeg b dp.toNatClampNeg n.toNatClampNeg)) else none
      | _ => none)
    | _ => none
  | _ => none
/-- a call of a method of the tables: the method, its arguments (the receiver first), what stays on the stack -/
def am_inv (own : Nat) (i : Instr) (st : List Value) (hp : am_H) : Option (am_MI × List Value × List Value) :=
  match i with
  | .invokestatic idx => match am_lkM own idx with
    | some (y, n, md) => if (md = 1 ∨ md = 4) ∧ n ≤ st.length ∧ ((st.drop n).map fun v => v.category).sum ≤ 8 then some (y, (st.take n).reverse, st.drop n) else none
    | none => none
  | .invokevirtual idx => match am_lkM own idx with
    | some (y, n, md) => (match st.drop n with
      | .ref b :: rest => if md = 0 ∧ y.1 < 9 ∧ b < hp.1 ∧ (am_kd b).1 = 4 + y.1 ∧ (rest.map fun v => v.category).sum ≤ 8 then some (y, .ref b :: (st.take n).reverse, rest) else none
      | _ => none)
    | none => none
  | .invokespecial idx => match am_lkM own idx with
    | some (y, n, md) => (match st.drop n with
      | .ref b :: rest => if (md = 2 ∨ md = 5) ∧ y.1 < 9 ∧ b < hp.1 ∧ (am_kd b).1 = 4 + y.1 ∧ (rest.map fun v => v.category).sum ≤ 8 then some (y, .ref b :: (st.take n).reverse, rest) else none
      | _ => none)
    | none => none
  | _ => none
/-- a return: what is handed back -/
def am_fin (rt : Option FieldType) (i : Instr) (st : List Value) : Option (Option Value) :=
  match i with
  | .ireturn => match st with
    | [.int x] => (match rt with
      | some .int => some (some (.int x))
      | some .boolean => if x = 0 ∨ x = 1 then some (some (.int x)) else none
      | _ => none)
    | _ => none
  | .areturn => match st with
    | [.ref a] => (match rt with
      | some (.object _) => some (some (.ref a))
      | _ => none)
    | _ => none
  | .return_ => match st, rt with
    | [], none => some none
    | _, _ => none
  | _ => none
/-- the lengths that the rows ask -/
def am_ok (i : Instr) (len : Nat) : Bool := match i with
  | .iload _ | .aload _ | .istore _ | .astore _ | .bipush _ | .ldc _ | .newarray _ => len == 2
  | .iinc _ _ | .sipush _ | .ldc_w _ | .goto _ | .if_icmp _ _ | .ifCond _ _ | .getfield _ | .putfield _ | .new _ | .anewarray _ | .invokestatic _ | .invokevirtual _ | .invokespecial _ => len == 3
  | .tableswitch _ _ _ _ | .lookupswitch _ _ => true
  | _ => len == 1
def am_run : Nat → am_E → am_MI → Nat → List Value → List Value → am_H → Option (Option Value × am_H)
  | 0, _, _, _, _, _, _ => none
  | n + 1, E, y, pc, al, st, hp => match decode y.2.2.1 pc with
    | .error _ => none
    | .ok (i, len) => if am_ok i len = false then none else match am_fin y.2.2.2.2 i st with
      | some r => some (r, hp)
      | none => match am_inv y.1 i st hp with
        | some (y', as, rest) => match E y' as hp with
          | some (r, hp') => am_run n E y (pc + 3) al (r.toList ++ rest) hp'
          | none => none
        | none => match am_stp y.1 (y.2.1.name == "<init>") i pc al st hp with
          | some (pc', al', st', hp') => am_run n E y pc' al' st' hp'
          | none => none
/-- a method, by fuel f for each frame and depth d of the calls -/
def am_ex (f : Nat) : Nat → am_E
  | 0 => fun _ _ _ => none
  | d + 1 => fun y as hp => if as.length ≤ y.2.2.2.1 ∧ (∀ v ∈ as, v.category = 1) then am_run f (am_ex f d) y 0 (as ++ List.replicate (y.2.2.2.1 - as.length) .null) [] hp else none
end
section
/-! the small machine's heap as a world of the kit -/
def am_adr (b0 : Nat) (adK : Nat → Nat) (a : Nat) : Nat := if a < 1000000 then b0 + a else adK (a - 1000000)
def am_tr (b0 : Nat) (adK : Nat → Nat) (v : Value) : Value := match v with
  | .ref a => .ref (am_adr b0 adK a)
  | v => v
def am_ai (v : Value) : Int32 := match v with
  | .int x => x
  | _ => 0
def am_ar (b0 : Nat) (adK : Nat → Nat) (v : Value) : Option Nat := match v with
  | .ref a => some (am_adr b0 adK a)
  | _ => none
def am_ce (b0 : Nat) (adK : Nat → Nat) (cA : Nat → ClassId) (i : Nat) (row : Nat → Value) : va_E := match (am_kd i).1 with
  | 0 => .inl (cA 0, ((am_kd i).2, .inl (fun j => am_ai (row j))))
  | 1 => .inl (cA 1, ((am_kd i).2, .inr (.inr (.inr (.inr (fun j => am_ar b0 adK (row j)))))))
  | 2 => .inl (cA 2, ((am_kd i).2, .inr (.inr (.inr (.inr (fun j => am_ar b0 adK (row j)))))))
  | 3 => .inl (cA 3, ((am_kd i).2, .inr (.inr (.inr (.inr (fun j => am_ar b0 adK (row j)))))))
  | c + 4 => .inr (c, (List.range (am_kd i).2).map (fun k => am_tr b0 adK (row k)))
def am_ws (b0 : Nat) (adK : Nat → Nat) (cA : Nat → ClassId) (hp : am_H) : va_W := (List.range hp.1).map (fun i => (b0 + i, am_ce b0 adK cA i (hp.2 i)))
def am_sl : Nat → Nat
  | 0 => 0
  | n + 1 => am_sl n + (am_kd n).2
theorem am_sl_mono {a b : Nat} (h : a ≤ b) : am_sl a ≤ am_sl b := by
  induction h with
  | refl => exact Nat.le_refl _
  | step _ ih => exact Nat.le_trans ih (Nat.le_add_right _ _)
theorem am_ws_get {b0 : Nat} {adK : Nat → Nat} {cA : Nat → ClassId} {hp : am_H} {i : Nat} (h : i < hp.1) : (am_ws b0 adK cA hp)[i]? = some (b0 + i, am_ce b0 adK cA i (hp.2 i)) := by
  simp [am_ws, h]
theorem am_ws_lt {b0 : Nat} {adK : Nat → Nat} {cA : Nat → ClassId} {hp : am_H} {i : Nat} {q : Nat × va_E} (h : (am_ws b0 adK cA hp)[i]? = some q) : i < hp.1 ∧ q = (b0 + i, am_ce b0 adK cA i (hp.2 i)) := by
  have hl : i < hp.1 := by
    have := (List.getElem?_eq_some_iff.mp h).1
    simpa [am_ws] using this
  rw [am_ws_get hl] at h
  exact ⟨hl, (Option.some.inj h).symm⟩
theorem am_ws_D (b0 : Nat) (adK : Nat → Nat) (cA : Nat → ClassId) (hp : am_H) : va_D (fun q : Nat => b0 ≤ q) (am_ws b0 adK cA hp) := by
  refine ⟨fun i j p q hi hj e => ?_, fun k q hk => ?_⟩
  · have h1 := (am_ws_lt hi).2
    have h2 := (am_ws_lt hj).2
    rw [h1, h2] at e
    simp only at e
    omega
  · have h1 := (am_ws_lt hk).2
    show b0 ≤ q.1
    rw [h1]
    exact Nat.le_add_right _ _
theorem am_up_row (g : Nat → Nat → Value) (a k : Nat) (v : Value) (i : Nat) : am_up g a k v i = if i = a then (fun k' => if k' = k then v else g a k') else g i := by
  funext k'
  by_cases h : i = a
  · subst h; simp [am_up]
  · simp [am_up, h]
theorem am_ws_set {b0 : Nat} {adK : Nat → Nat} {cA : Nat → ClassId} {n : Nat} {g g' : Nat → Nat → Value} {a : Nat} {x : Nat × va_E} (h : a < n) (hx : x = (b0 + a, am_ce b0 adK cA a (g' a))) (ho : ∀ i, i ≠ a → g' i = g i) : (am_ws b0 adK cA (n, g)).set a x = am_ws b0 adK cA (n, g') := by
  apply List.ext_getElem?
  intro i
  by_cases hi : i < n
  · rw [am_ws_get (hp := (n, g')) hi]
    by_cases e : i = a
    · subst e
      rw [List.getElem?_set_self (by simpa [am_ws] using hi), hx]
    · rw [List.getElem?_set_ne (fun q => e q.symm), am_ws_get (hp := (n, g)) hi]
      simp [ho i e]
  · rw [List.getElem?_eq_none (by simp [am_ws]; omega), List.getElem?_eq_none (by simp [am_ws]; omega)]
theorem am_ws_push {b0 : Nat} {adK : Nat → Nat} {cA : Nat → ClassId} {n : Nat} {g : Nat → Nat → Value} : am_ws b0 adK cA (n + 1, am_new g n) = am_ws b0 adK cA (n, g) ++ [(b0 + n, am_ce b0 adK cA n (am_dv n))] := by
  simp only [am_ws, List.range_succ, List.map_append, List.map_cons, List.map_nil]
  congr 1
  · apply List.map_congr_left
    intro i hi
    have hl : i < n := List.mem_range.mp hi
    have e : am_new g n i = g i := by funext k; simp [am_new, Nat.ne_of_lt hl]
    simp [e]
  · have e : am_new g n n = am_dv n := by funext k; simp [am_new]
    simp [e]
theorem am_tr_cat (b0 : Nat) (adK : Nat → Nat) (v : Value) : (am_tr b0 adK v).category = v.category := by cases v <;> rfl
/-- locals -/
def am_a1 (b0 : Nat) (adK : Nat → Nat) (k : Nat) (v : Option Value) : Option (Nat × Value) := match v with
  | some (.int x) => some (k, .int x)
  | some (.long x) => some (k, .long x)
  | some (.float x) => some (k, .float x)
  | some (.double x) => some (k, .double x)
  | some (.ref x) => some (k, am_tr b0 adK (.ref x))
  | some (.retAddr x) => some (k, .retAddr x)
  | _ => none
def am_as (b0 : Nat) (adK : Nat → Nat) (al : List Value) : List (Nat × Value) := (List.range al.length).filterMap (fun k => am_a1 b0 adK k al[k]?)
def am_LR (b0 : Nat) (adK : Nat → Nat) (ls : Array Slot) (al : List Value) : Prop := ls.size = al.length ∧ lv_wf ls ∧ ∀ (k : Nat) (v : Value), al[k]? = some v → v ≠ .null → v.category = 1 ∧ ls[k]? = some (.val (am_tr b0 adK v))
theorem am_a1_iff {b0 : Nat} {adK : Nat → Nat} {k : Nat} {v : Option Value} {q : Nat × Value} : am_a1 b0 adK k v = some q ↔ ∃ w, v = some w ∧ w ≠ .null ∧ q = (k, am_tr b0 adK w) := by
  cases v with
  | none => simp [am_a1]
  | some w => cases w <;> simp [am_a1, am_tr, eq_comm]
theorem am_as_mem {b0 : Nat} {adK : Nat → Nat} {al : List Value} {q : Nat × Value} : q ∈ am_as b0 adK al ↔ ∃ v, al[q.1]? = some v ∧ v ≠ .null ∧ q.2 = am_tr b0 adK v := by
  unfold am_as
  rw [List.mem_filterMap]
  constructor
  · rintro ⟨k, hk, h⟩
    obtain ⟨w, h1, h2, rfl⟩ := am_a1_iff.mp h
    exact ⟨w, h1, h2, rfl⟩
  · rintro ⟨v, h1, h2, h3⟩
    have hl : q.1 < al.length := (List.getElem?_eq_some_iff.mp h1).1
    exact ⟨q.1, List.mem_range.mpr hl, am_a1_iff.mpr ⟨v, h1, h2, by rw [← h3]⟩⟩
theorem am_LR.has {b0 : Nat} {adK : Nat → Nat} {ls : Array Slot} {al : List Value} (h : am_LR b0 adK ls al) : lv_has ls al.length (am_as b0 adK al) := by
  refine ⟨h.1, h.2.1, fun q hq => ?_⟩
  obtain ⟨v, h1, h2, h3⟩ := am_as_mem.mp hq
  rw [h3]
  exact (h.2.2 q.1 v h1 h2).2
theorem am_LR.set {b0 : Nat} {adK : Nat → Nat} {ls ls' : Array Slot} {al : List Value} {i : Nat} {v : Value} {u : Value} (h : am_LR b0 adK ls al) (hc : v.category = 1) (hu : u = am_tr b0 adK v)
    (h' : lv_has ls' al.length ((i, u) :: (am_as b0 adK al).filter (fun q => !(q.1 == i) && !(q.1 + 1 == i && q.2.category == 2)))) : am_LR b0 adK ls' (al.set i v) := by
  refine ⟨by rw [h'.1, List.length_set], h'.2.1, fun k w hk hw => ?_⟩
  by_cases e : k = i
  · subst e
    have hl : k < al.length := by
      have := (List.getElem?_eq_some_iff.mp hk).1
      simpa using this
    rw [List.getElem?_set_self hl] at hk
    cases hk
    exact ⟨hc, by rw [← hu]; exact h'.2.2 (k, u) List.mem_cons_self⟩
  · rw [List.getElem?_set_ne (fun q => e q.symm)] at hk
    obtain ⟨h1, h2⟩ := h.2.2 k w hk hw
    refine ⟨h1, h'.2.2 (k, am_tr b0 adK w) (List.mem_cons_of_mem _ (List.mem_filter.mpr ⟨am_as_mem.mpr ⟨w, hk, hw, rfl⟩, ?_⟩))⟩
    simp [e, am_tr_cat, h1]
theorem am_in_iff {i : Int32} {n : Nat} : am_in i n = true ↔ vp_in i n := by
  unfold am_in vp_in
  simp
end
section
/-! the tables hold in the claim's words -/
def am_tG : List Cond := lw_tbl.filter goodWord
def am_pt : Nat → List Cond := fun k => match k with
  | 0 => k2_sels lw_privs
  | 1 => tables_1_1
  | 2 => tables_1_2
  | 3 => tables_1_3
  | 4 => tables_1_4
  | 5 => tables_1_5
  | 6 => tables_1_6
  | _ => []
theorem am_pt_in (k : Nat) : ∀ w ∈ am_pt k, w ∈ lw_tbl := by
  intro w h
  have e : lw_tbl = k2_sels lw_privs ++ (tables_1_1 ++ (tables_1_2 ++ (tables_1_3 ++ (tables_1_4 ++ (tables_1_5 ++ tables_1_6))))) := rfl
  rw [e]
  simp only [List.mem_append]
  match k, h with
  | 0, h => exact Or.inl h
  | 1, h => exact Or.inr (Or.inl h)
  | 2, h => exact Or.inr (Or.inr (Or.inl h))
  | 3, h => exact Or.inr (Or.inr (Or.inr (Or.inl h)))
  | 4, h => exact Or.inr (Or.inr (Or.inr (Or.inr (Or.inl h))))
  | 5, h => exact Or.inr (Or.inr (Or.inr (Or.inr (Or.inr (Or.inl h)))))
  | 6, h => exact Or.inr (Or.inr (Or.inr (Or.inr (Or.inr (Or.inr h)))))
  | k + 7, h => exact absurd h List.not_mem_nil
def am_wt (i : Nat) (w : Cond) : Bool := decide ((am_pt (i / 1000))[i % 1000]? = some w)
theorem am_wt_in {i : Nat} {w : Cond} (h : am_wt i w = true) : w ∈ lw_tbl := am_pt_in (i / 1000) w (List.mem_of_getElem? (of_decide_eq_true h))
def am_wd (i : Nat) (w : Cond) : Bool := am_wt i w && goodWord w
theorem am_wd_in {i : Nat} {w : Cond} (h : am_wd i w = true) : w ∈ am_tG := by
  unfold am_wd at h
  rw [Bool.and_eq_true] at h
  exact List.mem_filter.mpr ⟨am_wt_in h.1, h.2⟩
theorem am_tG_good : ∀ w ∈ am_tG, goodWord w = true := fun w h => (List.mem_filter.mp h).2
theorem am_tG_tbl : ∀ w ∈ am_tG, w ∈ lw_tbl := fun w h => (List.mem_filter.mp h).1
def am_nf : Nat → Nat := fun c => match c with
  | 0 => 8
  | 1 => 6
  | 2 => 4
  | 3 => 17
  | 4 => 3
  | 5 => 5
  | 6 => 6
  | 7 => 8
  | 8 => 31
  | _ => 0
theorem am_cl_get {c : Nat} (h : c < 9) : am_cl[c]? = some (am_cn c, am_T c, am_nf c) := by
  match c, h with
  | 0, _ => rfl
  | 1, _ => rfl
  | 2, _ => rfl
  | 3, _ => rfl
  | 4, _ => rfl
  | 5, _ => rfl
  | 6, _ => rfl
  | 7, _ => rfl
  | 8, _ => rfl
  | c + 9, h => exact absurd h (by omega)
theorem am_ty_ok {c : Nat} (h : c < 9) : ∀ k, k < am_nf c → parseFieldDescriptor (am_T c k).2.2.1 = some (am_ty c k) := by
  match c, h with
  | 0, _ => exact tyX0_ok
  | 1, _ => exact tyX1_ok
  | 2, _ => exact tyX2_ok
  | 3, _ => exact tyX3_ok
  | 4, _ => exact tyX4_ok
  | 5, _ => exact tyX5_ok
  | 6, _ => exact tyX6_ok
  | 7, _ => exact tyX7_ok
  | 8, _ => exact tyX8_ok
  | c + 9, h => exact absurd h (by omega)
theorem am_nm_ok {c : Nat} (h : c < 9) : ∀ a, a < am_nf c → ∀ b, b < am_nf c → a ≠ b → (am_T c a).2.1 ≠ (am_T c b).2.1 := by
  match c, h with
  | 0, _ => exact nmX0
  | 1, _ => exact nmX1
  | 2, _ => exact nmX2
  | 3, _ => exact nmX3
  | 4, _ => exact nmX4
  | 5, _ => exact nmX5
  | 6, _ => exact nmX6
  | 7, _ => exact nmX7
  | 8, _ => exact nmX8
  | c + 9, h => exact absurd h (by omega)
theorem am_lay0 : ∀ w ∈ u_ws RX0 TX0 8, w ∈ am_tG := by decide +kernel
theorem am_lay1 : ∀ w ∈ u_ws RX1 TX1 6, w ∈ am_tG := by decide +kernel
theorem am_lay2 : ∀ w ∈ u_ws RX2 TX2 4, w ∈ am_tG := by decide +kernel
theorem am_lay3 : ∀ w ∈ u_ws RX3 TX3 17, w ∈ am_tG := by decide +kernel
theorem am_lay4 : ∀ w ∈ u_ws RX4 TX4 3, w ∈ am_tG := by decide +kernel
theorem am_lay5 : ∀ w ∈ u_ws RX5 TX5 5, w ∈ am_tG := by decide +kernel
theorem am_lay6 : ∀ w ∈ u_ws RX6 TX6 6, w ∈ am_tG := by decide +kernel
theorem am_lay7 : ∀ w ∈ u_ws RX7 TX7 8, w ∈ am_tG := by decide +kernel
theorem am_lay8 : ∀ w ∈ u_ws RX8 TX8 31, w ∈ am_tG := by decide +kernel
theorem am_lay {c : Nat} (h : c < 9) : ∀ w ∈ u_ws (am_cn c) (am_T c) (am_nf c), w ∈ am_tG := by
  match c, h with
  | 0, _ => exact am_lay0
  | 1, _ => exact am_lay1
  | 2, _ => exact am_lay2
  | 3, _ => exact am_lay3
  | 4, _ => exact am_lay4
  | 5, _ => exact am_lay5
  | 6, _ => exact am_lay6
  | 7, _ => exact am_lay7
  | 8, _ => exact am_lay8
  | c + 9, h => exact absurd h (by omega)
def am_F_t (e : Nat × Nat × Nat × Nat × Nat) : Bool := decide (e.2.2.1 < 9) && (decide (e.2.2.2.1 < am_nf e.2.2.1) && am_wd e.2.2.2.2 (.fieldLink (am_cn e.1) e.2.1 (am_T e.2.2.1 e.2.2.2.1).1 (am_T e.2.2.1 e.2.2.2.1).2.1 (am_T e.2.2.1 e.2.2.2.1).2.2.1))
theorem am_F_c : am_F.all am_F_t = true := by decide +kernel
theorem am_F_ok {own idx c k : Nat} (h : am_lkF own idx = some (c, k)) : c < 9 ∧ k < am_nf c ∧ Cond.fieldLink (am_cn own) idx (am_T c k).1 (am_T c k).2.1 (am_T c k).2.2.1 ∈ am_tG := by
  unfold am_lkF at h
  rw [Option.map_eq_some_iff] at h
  obtain ⟨e, h1, h2⟩ := h
  have h3 := List.find?_some h1
  have h4 := List.all_eq_true.mp am_F_c e (List.mem_of_find?_eq_some h1)
  obtain ⟨e1, e2, e3, e4, e5⟩ := e
  cases h2
  simp only [Bool.and_eq_true, beq_iff_eq] at h3
  obtain ⟨rfl, rfl⟩ := h3
  simp only [am_F_t, Bool.and_eq_true, decide_eq_true_eq] at h4
  exact ⟨h4.1, h4.2.1, am_wd_in h4.2.2⟩
/-- methods: the words by their places: link, instance or static, initialized, code, selects -/
def am_M_t (e : am_ME) : Bool := match e.2.2.2.2.2 with
  | [w0, w1, w2, w3] => (match e.2.2.2.2.1 with
    | 1 => am_wd w0 (.methodLink (am_cn e.1) e.2.1 e.2.2.1.2.1) && am_wd w1 (.static e.2.2.1.2.1)
    | 2 => am_wd w0 (.methodLink (am_cn e.1) e.2.1 e.2.2.1.2.1) && (am_wd w1 (.instanceMethod e.2.2.1.2.1) && decide (e.2.2.1.2.1.name = "<init>"))
    | 4 => am_wt w0 (.methodLinkNest (am_cn e.1) e.2.1 e.2.2.1.2.1 "SugarSaint") && am_wd w1 (.static e.2.2.1.2.1)
    | 5 => am_wt w0 (.methodLinkNest (am_cn e.1) e.2.1 e.2.2.1.2.1 "SugarSaint") && (am_wd w1 (.instanceMethod e.2.2.1.2.1) && decide (e.2.2.1.2.1.name = "<init>"))
    | _ => false) && (am_wd w2 (.initialized e.2.2.1.2.1.cls) && am_wd w3 (.code e.2.2.1.2.1 e.2.2.1.2.2.1 e.2.2.1.2.2.2.1 e.2.2.1.2.2.2.2))
  | [w0, w1, w2, w3, w4] => decide (e.2.2.2.2.1 = 0) && (am_wd w0 (.methodLink (am_cn e.1) e.2.1 e.2.2.1.2.1) && (am_wd w1 (.instanceMethod e.2.2.1.2.1) && am_wd w4 (.selects e.2.2.1.2.1.cls e.2.2.1.2.1 e.2.2.1.2.1))) && (am_wd w2 (.initialized e.2.2.1.2.1.cls) && am_wd w3 (.code e.2.2.1.2.1 e.2.2.1.2.2.1 e.2.2.1.2.2.2.1 e.2.2.1.2.2.2.2))
  | _ => false
def am_pl (y : am_MI) : Bool := plainName y.2.1.cls || (decide (y.2.1 = yJ6_bitCount_0f7a4) || (decide (y.2.1 = yJ9_max_7cf53) || (decide (y.2.1 = yJ9_min_7cf53) || decide (y.2.1 = yJ7_fill_53178))))
theorem am_pl1 : plainFor yJ6_bitCount_0f7a4 = true := by decide +kernel
theorem am_pl2 : plainFor yJ9_max_7cf53 = true := by decide +kernel
theorem am_pl3 : plainFor yJ9_min_7cf53 = true := by decide +kernel
theorem am_pl4 : plainFor yJ7_fill_53178 = true := by decide +kernel
theorem am_pl_ok {y : am_MI} (h : am_pl y = true) : plainFor y.2.1 = true := by
  unfold am_pl at h
  simp only [Bool.or_eq_true, decide_eq_true_eq] at h
  rcases h with h | h | h | h | h
  · exact plainFor_of_name h
  · rw [h]; exact am_pl1
  · rw [h]; exact am_pl2
  · rw [h]; exact am_pl3
  · rw [h]; exact am_pl4
def am_Y_t (y : am_MI) (n : Nat) : Bool := decide (y.2.1.cls = am_cn y.1) && (decide (y.2.1.cls ≠ "java/lang/invoke/MethodHandle") && (decide (y.2.1.cls ≠ "java/lang/invoke/VarHandle") && (decide ((parseMethodDescriptor y.2.1.desc).map (fun d => d.parameters.length) = some n) && (decide (y.2.2.2.1 ≤ 20) && am_pl y))))
def am_E_t (k : Nat) (e : am_ME) : Bool := am_M_t e && (am_Y_t e.2.2.1 e.2.2.2.1 && decide (e.1 = k))
theorem am_M_c0_0 : am_M_0_0.all (am_E_t 0) = true := by decide +kernel
theorem am_M_c0 : am_M_0.all (am_E_t 0) = true := by
  unfold am_M_0
  exact am_M_c0_0
theorem am_M_c1_0 : am_M_1_0.all (am_E_t 1) = true := by decide +kernel
theorem am_M_c1 : am_M_1.all (am_E_t 1) = true := by
  unfold am_M_1
  exact am_M_c1_0
theorem am_M_c2_0 : am_M_2_0.all (am_E_t 2) = true := by decide +kernel
theorem am_M_c2 : am_M_2.all (am_E_t 2) = true := by
  unfold am_M_2
  exact am_M_c2_0
theorem am_M_c3_0 : am_M_3_0.all (am_E_t 3) = true := by decide +kernel
theorem am_M_c3 : am_M_3.all (am_E_t 3) = true := by
  unfold am_M_3
  exact am_M_c3_0
theorem am_M_c4_0 : am_M_4_0.all (am_E_t 4) = true := by decide +kernel
theorem am_M_c4 : am_M_4.all (am_E_t 4) = true := by
  unfold am_M_4
  exact am_M_c4_0
theorem am_M_c5_0 : am_M_5_0.all (am_E_t 5) = true := by decide +kernel
theorem am_M_c5 : am_M_5.all (am_E_t 5) = true := by
  unfold am_M_5
  exact am_M_c5_0
theorem am_M_c6_0 : am_M_6_0.all (am_E_t 6) = true := by decide +kernel
theorem am_M_c6 : am_M_6.all (am_E_t 6) = true := by
  unfold am_M_6
  exact am_M_c6_0
theorem am_M_c7_0 : am_M_7_0.all (am_E_t 7) = true := by decide +kernel
theorem am_M_c7_1 : am_M_7_1.all (am_E_t 7) = true := by decide +kernel
theorem am_M_c7 : am_M_7.all (am_E_t 7) = true := by
  unfold am_M_7
  simp only [List.all_append, Bool.and_eq_true]
  exact ⟨am_M_c7_0, am_M_c7_1⟩
theorem am_M_c8_0 : am_M_8_0.all (am_E_t 8) = true := by decide +kernel
theorem am_M_c8_1 : am_M_8_1.all (am_E_t 8) = true := by decide +kernel
theorem am_M_c8_2 : am_M_8_2.all (am_E_t 8) = true := by decide +kernel
theorem am_M_c8 : am_M_8.all (am_E_t 8) = true := by
  unfold am_M_8
  simp only [List.all_append, Bool.and_eq_true]
  exact ⟨⟨am_M_c8_0, am_M_c8_1⟩, am_M_c8_2⟩
theorem am_M_c9_0 : am_M_9_0.all (am_E_t 9) = true := by decide +kernel
theorem am_M_c9_1 : am_M_9_1.all (am_E_t 9) = true := by decide +kernel
theorem am_M_c9_2 : am_M_9_2.all (am_E_t 9) = true := by decide +kernel
theorem am_M_c9_3 : am_M_9_3.all (am_E_t 9) = true := by decide +kernel
theorem am_M_c9 : am_M_9.all (am_E_t 9) = true := by
  unfold am_M_9
  simp only [List.all_append, Bool.and_eq_true]
  exact ⟨⟨⟨am_M_c9_0, am_M_c9_1⟩, am_M_c9_2⟩, am_M_c9_3⟩
theorem am_M_all (own : Nat) : (am_M own).all (am_E_t own) = true := by
  match own with
  | 0 => exact am_M_c0
  | 1 => exact am_M_c1
  | 2 => exact am_M_c2
  | 3 => exact am_M_c3
  | 4 => exact am_M_c4
  | 5 => exact am_M_c5
  | 6 => exact am_M_c6
  | 7 => exact am_M_c7
  | 8 => exact am_M_c8
  | 9 => exact am_M_c9
  | k + 10 => rfl
theorem am_M_ok {own idx n md : Nat} {y : am_MI} (h : am_lkM own idx = some (y, n, md)) : ∃ ws, am_M_t (own, idx, y, n, md, ws) = true ∧ am_Y_t y n = true := by
  unfold am_lkM at h
  rw [Option.map_eq_some_iff] at h
  obtain ⟨e, h1, h2⟩ := h
  have h3 := List.find?_some h1
  have h4 := List.all_eq_true.mp (am_M_all own) e (List.mem_of_find?_eq_some h1)
  obtain ⟨e1, e2, e3, e4, e5, e6⟩ := e
  cases h2
  simp only [beq_iff_eq] at h3
  subst h3
  simp only [am_E_t, Bool.and_eq_true, decide_eq_true_eq] at h4
  obtain ⟨h5, h6, rfl⟩ := h4
  exact ⟨e6, h5, h6⟩
theorem am_M_code {own idx n md : Nat} {y : am_MI} {ws : List Nat} (h : am_M_t (own, idx, y, n, md, ws) = true) : Cond.initialized y.2.1.cls ∈ am_tG ∧ Cond.code y.2.1 y.2.2.1 y.2.2.2.1 y.2.2.2.2 ∈ am_tG := by
  unfold am_M_t at h
  split at h
  · simp only [Bool.and_eq_true] at h
    exact ⟨am_wd_in h.2.1, am_wd_in h.2.2⟩
  · simp only [Bool.and_eq_true] at h
    exact ⟨am_wd_in h.2.1, am_wd_in h.2.2⟩
  · cases h
theorem am_M_0' {own idx n : Nat} {y : am_MI} {ws : List Nat} (h : am_M_t (own, idx, y, n, 0, ws) = true) : Cond.methodLink (am_cn own) idx y.2.1 ∈ am_tG ∧ Cond.instanceMethod y.2.1 ∈ am_tG ∧ Cond.selects y.2.1.cls y.2.1 y.2.1 ∈ am_tG := by
  unfold am_M_t at h
  split at h
  · simp at h
  · simp only [Bool.and_eq_true] at h
    exact ⟨am_wd_in h.1.2.1, am_wd_in h.1.2.2.1, am_wd_in h.1.2.2.2⟩
  · cases h
theorem am_M_1' {own idx n : Nat} {y : am_MI} {ws : List Nat} (h : am_M_t (own, idx, y, n, 1, ws) = true) : Cond.methodLink (am_cn own) idx y.2.1 ∈ am_tG ∧ Cond.static y.2.1 ∈ am_tG := by
  unfold am_M_t at h
  split at h
  · simp only [Bool.and_eq_true] at h
    exact ⟨am_wd_in h.1.1, am_wd_in h.1.2⟩
  · simp at h
  · cases h
theorem am_M_2' {own idx n : Nat} {y : am_MI} {ws : List Nat} (h : am_M_t (own, idx, y, n, 2, ws) = true) : Cond.methodLink (am_cn own) idx y.2.1 ∈ am_tG ∧ Cond.instanceMethod y.2.1 ∈ am_tG ∧ y.2.1.name = "<init>" := by
  unfold am_M_t at h
  split at h
  · simp only [Bool.and_eq_true, decide_eq_true_eq] at h
    exact ⟨am_wd_in h.1.1, am_wd_in h.1.2.1, h.1.2.2⟩
  · simp at h
  · cases h
theorem am_M_4' {own idx n : Nat} {y : am_MI} {ws : List Nat} (h : am_M_t (own, idx, y, n, 4, ws) = true) : Cond.methodLinkNest (am_cn own) idx y.2.1 "SugarSaint" ∈ lw_tbl ∧ Cond.static y.2.1 ∈ am_tG := by
  unfold am_M_t at h
  split at h
  · simp only [Bool.and_eq_true, decide_eq_true_eq] at h
    exact ⟨am_wt_in h.1.1, am_wd_in h.1.2⟩
  · simp at h
  · cases h
theorem am_M_5' {own idx n : Nat} {y : am_MI} {ws : List Nat} (h : am_M_t (own, idx, y, n, 5, ws) = true) : Cond.methodLinkNest (am_cn own) idx y.2.1 "SugarSaint" ∈ lw_tbl ∧ Cond.instanceMethod y.2.1 ∈ am_tG ∧ y.2.1.name = "<init>" := by
  unfold am_M_t at h
  split at h
  · simp only [Bool.and_eq_true, decide_eq_true_eq] at h
    exact ⟨am_wt_in h.1.1, am_wd_in h.1.2.1, h.1.2.2⟩
  · simp at h
  · cases h
def am_X_t (e : Nat × Nat × Nat × Nat) : Bool := match e.2.2.1 with
  | 0 => am_wd e.2.2.2 (.methodLink (am_cn e.1) e.2.1 objectInit)
  | 1 => am_wd e.2.2.2 (.methodLink (am_cn e.1) e.2.1 yJ0_length_8abf5)
  | 2 => am_wd e.2.2.2 (.methodLink (am_cn e.1) e.2.1 yJ0_charAt_5068e)
  | 3 => am_wd e.2.2.2 (.methodLink (am_cn e.1) e.2.1 arraycopyName)
  | _ => false
theorem am_X_c : am_X.all am_X_t = true := by decide +kernel
theorem am_X_ok {own idx k : Nat} (h : am_lkX own idx = some k) : ∃ w, am_X_t (own, idx, k, w) = true := by
  unfold am_lkX at h
  rw [Option.map_eq_some_iff] at h
  obtain ⟨e, h1, h2⟩ := h
  have h3 := List.find?_some h1
  have h4 := List.all_eq_true.mp am_X_c e (List.mem_of_find?_eq_some h1)
  obtain ⟨e1, e2, e3, e4⟩ := e
  cases h2
  simp only [Bool.and_eq_true, beq_iff_eq] at h3
  obtain ⟨rfl, rfl⟩ := h3
  exact ⟨e4, h4⟩
def am_L_t (e : Nat × Nat × Nat × Nat) : Bool := if e.2.2.1 < 9 then am_wd e.2.2.2 (.classLink (am_cn e.1) e.2.1 (am_cn e.2.2.1)) else am_wd e.2.2.2 (.classLink (am_cn e.1) e.2.1 "java/lang/String")
theorem am_L_c : am_L.all am_L_t = true := by decide +kernel
theorem am_L_ok {own idx k : Nat} (h : am_lkL own idx = some k) : (k < 9 → Cond.classLink (am_cn own) idx (am_cn k) ∈ am_tG) ∧ (¬ k < 9 → Cond.classLink (am_cn own) idx "java/lang/String" ∈ am_tG) := by
  unfold am_lkL at h
  rw [Option.map_eq_some_iff] at h
  obtain ⟨e, h1, h2⟩ := h
  have h3 := List.find?_some h1
  have h4 := List.all_eq_true.mp am_L_c e (List.mem_of_find?_eq_some h1)
  obtain ⟨e1, e2, e3, e4⟩ := e
  cases h2
  simp only [Bool.and_eq_true, beq_iff_eq] at h3
  obtain ⟨rfl, rfl⟩ := h3
  unfold am_L_t at h4
  constructor
  · intro hk
    rw [if_pos hk] at h4
    exact am_wd_in h4
  · intro hk
    rw [if_neg hk] at h4
    exact am_wd_in h4
theorem am_inst_c : ∀ c : Fin 9, Cond.instantiable (am_cn c.val) (am_nf c.val) ∈ am_tG ∧ Cond.initialized (am_cn c.val) ∈ am_tG := by decide +kernel
def am_N_t (e : Nat × Nat × Int × Nat) : Bool := am_wd e.2.2.2 (.constant (am_cn e.1) e.2.1 (Int32.ofInt e.2.2.1))
theorem am_N_c : am_N.all am_N_t = true := by decide +kernel
theorem am_N_ok {own idx : Nat} {v : Int} (h : am_lkN own idx = some v) : Cond.constant (am_cn own) idx (Int32.ofInt v) ∈ am_tG := by
  unfold am_lkN at h
  rw [Option.map_eq_some_iff] at h
  obtain ⟨e, h1, h2⟩ := h
  have h3 := List.find?_some h1
  have h4 := List.all_eq_true.mp am_N_c e (List.mem_of_find?_eq_some h1)
  obtain ⟨e1, e2, e3, e4⟩ := e
  cases h2
  simp only [Bool.and_eq_true, beq_iff_eq] at h3
  obtain ⟨rfl, rfl⟩ := h3
  exact am_wd_in h4
theorem am_S_ok {own idx t : Nat} (h : am_lkS own idx = some t) : ∃ w, (own, idx, t, w) ∈ am_S := by
  unfold am_lkS at h
  rw [Option.map_eq_some_iff] at h
  obtain ⟨e, h1, h2⟩ := h
  have h3 := List.find?_some h1
  obtain ⟨e1, e2, e3, e4⟩ := e
  cases h2
  simp only [Bool.and_eq_true, beq_iff_eq] at h3
  obtain ⟨rfl, rfl⟩ := h3
  exact ⟨e4, List.mem_of_find?_eq_some h1⟩
theorem am_misc : Cond.instanceMethod objectInit ∈ am_tG ∧ Cond.code objectInit ⟨#[0xb1]⟩ 1 none ∈ am_tG ∧ Cond.native arraycopyName ∈ am_tG ∧ Cond.static arraycopyName ∈ am_tG ∧ Cond.initialized "java/lang/System" ∈ am_tG ∧ Cond.arrayClass .int ∈ am_tG := by decide +kernel
theorem am_kd_c : am_kl.all (fun e => decide (e.1 < 13) && (decide (e.2 ≤ 1200) && (decide (e.1 < 4) || decide (e.2 = am_nf (e.1 - 4))))) = true := by decide +kernel
theorem am_kd_in {a : Nat} (h : a < 123) : (am_kd a).1 < 13 ∧ (am_kd a).2 ≤ 1200 ∧ (4 ≤ (am_kd a).1 → (am_kd a).2 = am_nf ((am_kd a).1 - 4)) := by
  have hl : a < am_kl.length := h
  have e : am_kd a = am_kl[a] := by unfold am_kd; rw [List.getD_eq_getElem?_getD, List.getElem?_eq_getElem hl]; rfl
  have h1 := List.all_eq_true.mp am_kd_c _ (List.getElem_mem hl)
  rw [e]
  simp only [Bool.and_eq_true, Bool.or_eq_true, decide_eq_true_eq] at h1
  refine ⟨h1.1, h1.2.1, fun h4 => ?_⟩
  rcases h1.2.2 with h5 | h5
  · omega
  · exact h5
theorem am_kd_lt {a : Nat} (h : (am_kd a).1 < 99) : a < 123 := by
  rcases Nat.lt_or_ge a 123 with q | q
  · exact q
  · have e : am_kd a = (99, 0) := by unfold am_kd; rw [List.getD_eq_getElem?_getD, List.getElem?_eq_none (by exact q)]; rfl
    rw [e] at h
    exact absurd h (by decide)
theorem am_kd_obj {a c : Nat} (h : (am_kd a).1 = 4 + c) (hc : c < 9) : a < 123 ∧ (am_kd a).2 = am_nf c := by
  have h1 := am_kd_lt (a := a) (by omega)
  refine ⟨h1, ?_⟩
  rw [(am_kd_in h1).2.2 (by omega), h]
  congr 1
  omega
end
section
/-! what the small machine stands on at a state: classes, rows, nest mates, texts -/
def am_tys (cA : Nat → ClassId) : List (ClassId × FieldType) := [(cA 0, .int), (cA 1, .object RX5), (cA 2, .object RX4), (cA 3, .object "java/lang/String")]
def am_Z (adK adV : Nat → Nat) (b0 : Nat) (U : State) (H : Heap) : Prop :=
  (∀ i : Nat, i < 15 → va_O "java/lang/String" (adK i) (fun q : Nat => b0 ≤ q) U H ∧ va_OF "java/lang/String" "coder" "B" (.int 0) (adK i) (fun q : Nat => b0 ≤ q) U H ∧ va_OF "java/lang/String" "value" "[B" (.ref (adV i)) (adK i) (fun q : Nat => b0 ≤ q) U H ∧ va_T .byte (adV i) (am_by.getD i []).length (fun j => .int (nI ((am_by.getD i []).getD j 0))) (fun q : Nat => b0 ≤ q) U H)
  ∧ va_Z "java/lang/String" "COMPACT_STRINGS" "Z" (.int 1) (fun q : Nat => b0 ≤ q) U H ∧ va_Zq "jdk/internal/util/Preconditions" "SIOOBE_FORMATTER" "Ljava/util/function/BiFunction;" (fun q : Nat => b0 ≤ q) U H
theorem am_Z.moved {adK adV : Nat → Nat} {b0 : Nat} {u U : State} {H : Heap} (hvm : u.vm.Alike U.vm) (h : am_Z adK adV b0 u H) : am_Z adK adV b0 U H :=
  ⟨fun i hi => ⟨va_O.moved hvm (h.1 i hi).1, va_OF.moved hvm (h.1 i hi).2.1, va_OF.moved hvm (h.1 i hi).2.2.1, va_T.moved hvm (h.1 i hi).2.2.2⟩, va_Z.moved hvm h.2.1, va_Zq.moved hvm h.2.2⟩
theorem am_Z.kept {adK adV : Nat → Nat} {b0 : Nat} {U : State} {H H1 : Heap} (h : am_Z adK adV b0 U H) (hq : ∀ a : Nat, a < H.size → ¬ b0 ≤ a → H1[a]? = H[a]?) : am_Z adK adV b0 U H1 :=
  ⟨fun i hi => ⟨(h.1 i hi).1.kept hq, (h.1 i hi).2.1.kept hq, (h.1 i hi).2.2.1.kept hq, (h.1 i hi).2.2.2.kept hq⟩, h.2.1.kept hq, h.2.2.kept hq⟩
/-- of the tables alone -/
def am_KT (D : va_G) (adK : Nat → Nat) (cA : Nat → ClassId) (U : State) : Prop :=
  va_K D am_cl (am_tys cA) U ∧ (∀ (a : String) (i : Nat) (x : MethodName) (h : String), Cond.methodLinkNest a i x h ∈ lw_tbl → va_Nw (.methodLinkNest a i x h) U) ∧ (va_AO RX5 U ∧ va_AO RX4 U ∧ va_AO "java/lang/String" U) ∧ ∀ e ∈ am_S, vk_R (am_cn e.1) e.2.1 (am_tx.getD e.2.2.1 "") (adK e.2.2.1) U
theorem am_KT.warm {D : va_G} {adK : Nat → Nat} {cA : Nat → ClassId} {s U : State} (hW : s.WarmedH U.vm) (h : am_KT D adK cA s) : am_KT D adK cA U :=
  ⟨va_K.moved hW.alike h.1, fun a i x q hm => va_Nw.warmM hW (h.2.1 a i x q hm), ⟨h.2.2.1.1.moved hW.alike, h.2.2.1.2.1.moved hW.alike, h.2.2.1.2.2.moved hW.alike⟩, fun e he => vk_R.warm hW (h.2.2.2 e he)⟩
theorem am_KT.same {D : va_G} {adK : Nat → Nat} {cA : Nat → ClassId} {s U : State} (hv : U.vm = s.vm) (h : am_KT D adK cA s) : am_KT D adK cA U :=
  ⟨va_K.moved (by rw [hv]; exact Vm.Alike.refl _) h.1, fun a i x q hm => va_Nw.same rfl hv.symm (h.2.1 a i x q hm), ⟨h.2.2.1.1.moved (by rw [hv]; exact Vm.Alike.refl _), h.2.2.1.2.1.moved (by rw [hv]; exact Vm.Alike.refl _), h.2.2.1.2.2.moved (by rw [hv]; exact Vm.Alike.refl _)⟩, fun e he => vk_R.same hv (h.2.2.2 e he)⟩
/-- the frame: its machine, code, class, words, name -/
def am_FX (p : Program) (s : State) (m : MethodId) (args : Array Value) (meth : Method) (c : Code) (y : am_MI) : Prop :=
  p.tables.exec = Jvm.exec ∧ c.code = y.2.2.1 ∧ c.maxLocals = y.2.2.2.1 ∧ s.vm.findClass (am_cn y.1) = some m.cls ∧ (∀ w ∈ am_tG, w.before args s = true) ∧ meth.name = y.2.1.name
theorem am_iv_some {v : Option Value} {k : Int32 → Option am_C} {z : am_C} (h : am_iv v k = some z) : ∃ x, v = some (.int x) ∧ k x = some z := by
  unfold am_iv at h
  split at h
  · exact ⟨_, rfl, h⟩
  · cases h
theorem am_rv_some {v : Option Value} {k : Nat → Option am_C} {z : am_C} (h : am_rv v k = some z) : ∃ x, v = some (.ref x) ∧ k x = some z := by
  unfold am_rv at h
  split at h
  · exact ⟨_, rfl, h⟩
  · cases h
theorem am_1i_some {st : List Value} {k : Int32 → List Value → Option am_C} {z : am_C} (h : am_1i st k = some z) : ∃ x r, st = .int x :: r ∧ k x r = some z := by
  unfold am_1i at h
  split at h
  · exact ⟨_, _, rfl, h⟩
  · cases h
theorem am_2i_some {st : List Value} {k : Int32 → Int32 → List Value → Option am_C} {z : am_C} (h : am_2i st k = some z) : ∃ x y r, st = .int y :: .int x :: r ∧ k x y r = some z := by
  unfold am_2i at h
  split at h
  · exact ⟨_, _, _, rfl, h⟩
  · cases h
theorem am_1r_some {st : List Value} {k : Nat → List Value → Option am_C} {z : am_C} (h : am_1r st k = some z) : ∃ x r, st = .ref x :: r ∧ k x r = some z := by
  unfold am_1r at h
  split at h
  · exact ⟨_, _, rfl, h⟩
  · cases h
theorem am_2l_some {st : List Value} {k : Int64 → Int64 → List Value → Option am_C} {z : am_C} (h : am_2l st k = some z) : ∃ x y r, st = .long y :: .long x :: r ∧ k x y r = some z := by
  unfold am_2l at h
  split at h
  · exact ⟨_, _, _, rfl, h⟩
  · cases h
theorem am_tg_some {pc : Nat} {off : Int} {k : Nat → Option am_C} {z : am_C} (h : am_tg pc off k = some z) : ∃ t : Nat, (pc : Int) + off = (t : Int) ∧ k t = some z := by
  unfold am_tg at h
  split at h
  · rename_i h0
    exact ⟨_, (Int.toNat_of_nonneg h0).symm, h⟩
  · cases h
theorem am_ite_some {c : Prop} [Decidable c] {a : Option am_C} {z : am_C} (h : (if c then a else none) = some z) : c ∧ a = some z := by
  split at h
  · exact ⟨‹_›, h⟩
  · cases h
theorem am_adr_lt {b0 : Nat} {adK : Nat → Nat} {a : Nat} (h : (am_kd a).1 < 99) : am_adr b0 adK a = b0 + a := by
  have := am_kd_lt h
  unfold am_adr
  rw [if_pos (by omega)]
theorem am_adr_s {b0 : Nat} {adK : Nat → Nat} {t : Nat} : am_adr b0 adK (1000000 + t) = adK t := by
  unfold am_adr
  rw [if_neg (by omega), Nat.add_sub_cancel_left]
theorem am_ce_0 {b0 : Nat} {adK : Nat → Nat} {cA : Nat → ClassId} {a : Nat} {row : Nat → Value} (h : (am_kd a).1 = 0) : am_ce b0 adK cA a row = .inl (cA 0, ((am_kd a).2, .inl (fun j => am_ai (row j)))) := by
  unfold am_ce
  rw [h]
theorem am_ce_q {b0 : Nat} {adK : Nat → Nat} {cA : Nat → ClassId} {a t : Nat} {row : Nat → Value} (h : (am_kd a).1 = t) (h1 : 1 ≤ t) (h3 : t ≤ 3) : am_ce b0 adK cA a row = .inl (cA t, ((am_kd a).2, .inr (.inr (.inr (.inr (fun j => am_ar b0 adK (row j))))))) := by
  unfold am_ce
  match t, h, h1, h3 with
  | 1, h, _, _ => rw [h]
  | 2, h, _, _ => rw [h]
  | 3, h, _, _ => rw [h]
  | 0, _, h1, _ => exact absurd h1 (by decide)
  | t + 4, _, _, h3 => exact absurd h3 (by omega)
theorem am_ce_obj {b0 : Nat} {adK : Nat → Nat} {cA : Nat → ClassId} {a k : Nat} {row : Nat → Value} (h : (am_kd a).1 = 4 + k) : am_ce b0 adK cA a row = .inr (k, (List.range (am_kd a).2).map (fun j => am_tr b0 adK (row j))) := by
  unfold am_ce
  rw [h, Nat.add_comm]
theorem am_fs_get {b0 : Nat} {adK : Nat → Nat} {row : Nat → Value} {n k : Nat} (h : k < n) : ((List.range n).map (fun j => am_tr b0 adK (row j)))[k]? = some (am_tr b0 adK (row k)) := by
  simp [h]
theorem am_fs_set {b0 : Nat} {adK : Nat → Nat} {row : Nat → Value} {n k : Nat} {v : Value} : ((List.range n).map (fun j => am_tr b0 adK (row j))).set k (am_tr b0 adK v) = (List.range n).map (fun j => am_tr b0 adK (if j = k then v else row j)) := by
  apply List.ext_getElem?
  intro i
  by_cases hi : i < n
  · by_cases e : i = k
    · subst e
      simp [hi]
    · rw [List.getElem?_set_ne (fun q => e q.symm)]
      simp [hi, e]
  · rw [List.getElem?_eq_none (by simp; omega), List.getElem?_eq_none (by simp; omega)]
section AMW
variable {p : Program} {l : Launch} {e : Env} {R : Room} {s : State} {m : MethodId} {args : Array Value} {below : List Frame} {meth : Method} {c : Code} {H : Heap} {locs : List Loc} {cells slots : Nat} {Q : State → Prop}
theorem am_wsz {g : JFrame} (k : H.size ≤ s.heap.size + cells → W p l e R s m args below meth c H locs cells slots Q g) : W p l e R s m args below meth c H locs cells slots Q g := by
  intro T hT X
  refine k ?_ T hT X
  have h := X.same.2.2.1
  rw [← hT]
  exact h
theorem am_ldcSw {cc : ByteArray} {pc : Nat} {ls : Array Slot} {rest : List Value} (hexec : p.tables.exec = Jvm.exec) (hb : c.code = cc) {own tx : String} {index q : Nat} (hown : s.vm.findClass own = some m.cls) (hZ : vk_R own index tx q s) (hdg : decode cc pc = .ok (.ldc_w index, 3))
    (k : W p l e R s m args below meth c H locs cells slots Q (F0 m (pc + 3) ls (.ref q :: rest))) : W p l e R s m args below meth c H locs cells slots Q (F0 m pc ls rest) := by
  intro T hT X
  obtain ⟨t, a1, b1⟩ := k T hT X
  exact ⟨t, X.ldcStringW hexec hown (text := tx) (a := q) hZ.1 hZ.2 (g := F0 m pc ls rest) rfl (by rw [hb]; exact hdg) t a1, b1⟩
end AMW
theorem am_fresh {D : va_G} {b0 : Nat} {adK : Nat → Nat} {cA : Nat → ClassId} {hp : am_H} {q : Nat} {z : va_E} {H : Heap} (hP : va_P D am_cl (am_ws b0 adK cA hp ++ [(q, z)]) H) (hD : va_D (fun q : Nat => b0 ≤ q) (am_ws b0 adK cA hp ++ [(q, z)])) (hz : H.size ≤ b0 + hp.1 + 1) : q = b0 + hp.1 := by
  have hlen : (am_ws b0 adK cA hp).length = hp.1 := by simp [am_ws]
  have hq : (am_ws b0 adK cA hp ++ [(q, z)])[hp.1]? = some (q, z) := by
    rw [List.getElem?_append_right (by omega), hlen]
    simp
  have h1 : q < H.size := (hP _ _ hq).lt
  have h2 : b0 ≤ q := hD.2 _ _ hq
  rcases Nat.lt_or_ge q (b0 + hp.1) with h3 | h3
  · exfalso
    have hi : q - b0 < hp.1 := by omega
    have hg : (am_ws b0 adK cA hp ++ [(q, z)])[q - b0]? = some (b0 + (q - b0), am_ce b0 adK cA (q - b0) (hp.2 (q - b0))) := by
      rw [List.getElem?_append_left (by omega)]
      exact am_ws_get hi
    have := hD.1 _ _ _ _ hg hq (by simp only; omega)
    omega
  · omega
end
section
/-! one step of the small machine is one of the machine's -/
theorem am_fit_ok {b0 : Nat} {adK : Nat → Nat} {ty : FieldType} {v : Value} (h : am_fit ty v = true) : narrow ty (am_tr b0 adK v) = am_tr b0 adK v ∧ fits ty (am_tr b0 adK v) = true := by
  unfold am_fit at h
  split at h
  · exact ⟨rfl, rfl⟩
  · rename_i x
    simp only [Bool.or_eq_true, beq_iff_eq] at h
    rcases h with rfl | rfl
    · show narrow .boolean (.int 0) = .int 0 ∧ fits .boolean (.int 0) = true
      decide
    · show narrow .boolean (.int 1) = .int 1 ∧ fits .boolean (.int 1) = true
      decide
  · exact ⟨rfl, rfl⟩
  · exact ⟨rfl, rfl⟩
  · cases h
theorem am_decl_c : ∀ ci : Fin 9, ∀ k : Fin 31, k.val < am_nf ci.val → (am_T ci.val k.val).1 = am_cn ci.val := by decide +kernel
theorem am_decl {ci k : Nat} (h : ci < 9) (hk : k < am_nf ci) : (am_T ci k).1 = am_cn ci := by
  have : am_nf ci ≤ 31 := by
    match ci, h with
    | 0, _ => decide
    | 1, _ => decide
    | 2, _ => decide
    | 3, _ => decide
    | 4, _ => decide
    | 5, _ => decide
    | 6, _ => decide
    | 7, _ => decide
    | 8, _ => decide
    | c + 9, h => exact absurd h (by omega)
  exact am_decl_c ⟨ci, h⟩ ⟨k, by omega⟩ hk
theorem am_tys_get {cA : Nat → ClassId} {t : Nat} (h1 : 1 ≤ t) (h3 : t ≤ 3) : ∃ C, (am_tys cA)[t]? = some (cA t, .object C) := by
  match t, h1, h3 with
  | 1, _, _ => exact ⟨_, rfl⟩
  | 2, _, _ => exact ⟨_, rfl⟩
  | 3, _, _ => exact ⟨_, rfl⟩
theorem am_map_cat {b0 : Nat} {adK : Nat → Nat} {r : List Value} : ((r.map (am_tr b0 adK)).map fun v => v.category).sum = (r.map fun v => v.category).sum := by
  rw [List.map_map]
  congr 2
  funext v
  exact am_tr_cat _ _ _
theorem am_nfw : nativeFrameWords "java/lang/System" "arraycopy" 5 ≤ 60 := by decide +kernel
section AMS
variable {p : Program} {l : Launch} {e : Env} {R : Room} {s : State} {m : MethodId} {args : Array Value} {below : List Frame} {meth : Method} {c : Code} {Q : State → Prop}
variable {b0 n0 : Nat} {adK adV : Nat → Nat} {cA : Nat → ClassId} {D : va_G} {y : am_MI}
/-- length() of a text of the tables, at any place of the frame -/
def am_lenW (p : Program) (l : Launch) (e : Env) (R : Room) (s : State) (m : MethodId) (args : Array Value) (below : List Frame) (meth : Method) (c : Code) (Q : State → Prop) (b0 : Nat) (adK : Nat → Nat) (y : am_MI) : Prop :=
  ∀ (t : Nat), t < 15 → ∀ {pc idx cells slots : Nat} (rest : List Value) (H : Heap) (locs : List Loc) (ls : Array Slot), va_S (fun q : Nat => b0 ≤ q) s.heap H locs → ls.size = y.2.2.2.1 → Cond.methodLink (am_cn y.1) idx yJ0_length_8abf5 ∈ am_tG → decode y.2.2.1 pc = .ok (.invokevirtual idx, 3) → (rest.map fun v => v.category).sum ≤ 8 → cells ≤ R.cells → slots ≤ R.slots →
    W p l e R s m args below meth c H locs cells slots Q (F0 m (pc + 3) ls (.int (nI (am_by.getD t []).length) :: rest)) → W p l e R s m args below meth c H locs cells slots Q (F0 m pc ls (.ref (adK t) :: rest))
/-- charAt(i) -/
def am_chrW (p : Program) (l : Launch) (e : Env) (R : Room) (s : State) (m : MethodId) (args : Array Value) (below : List Frame) (meth : Method) (c : Code) (Q : State → Prop) (b0 : Nat) (adK : Nat → Nat) (y : am_MI) : Prop :=
  ∀ (t : Nat), t < 15 → ∀ {pc idx cells slots : Nat} {i : Int32}, vp_in i (am_by.getD t []).length → ∀ (rest : List Value) (H : Heap) (locs : List Loc) (ls : Array Slot), va_S (fun q : Nat => b0 ≤ q) s.heap H locs → ls.size = y.2.2.2.1 → Cond.methodLink (am_cn y.1) idx yJ0_charAt_5068e ∈ am_tG → decode y.2.2.1 pc = .ok (.invokevirtual idx, 3) → (rest.map fun v => v.category).sum ≤ 8 → cells ≤ R.cells → slots ≤ R.slots →
    W p l e R s m args below meth c H locs cells slots Q (F0 m (pc + 3) ls (.int (nI ((am_by.getD t []).getD i.toNatClampNeg 0)) :: rest)) → W p l e R s m args below meth c H locs cells slots Q (F0 m pc ls (.int i :: .ref (adK t) :: rest))
set_option maxHeartbeats 4000000 in
theorem am_sound1 (F : am_FX p s m args meth c y) (K : am_KT D adK cA s) (Z : am_Z adK adV b0 s s.heap) (hlen : am_lenW p l e R s m args below meth c Q b0 adK y) (hchr : am_chrW p l e R s m args below meth c Q b0 adK y) (hsz : s.heap.size = b0 + n0)
    {i : Instr} {len pc pc' : Nat} {al al' st st' : List Value} {hp hp' : am_H} {H : Heap} {locs : List Loc} {ls : Array Slot} (hn : n0 ≤ hp.1)
    (hd : decode y.2.2.1 pc = .ok (i, len)) (hok : am_ok i len = true) (hst : am_stp y.1 (y.2.1.name == "<init>") i pc al st hp = some (pc', al', st', hp'))
    (hP : va_P D am_cl (am_ws b0 adK cA hp) H) (hS : va_S (fun q : Nat => b0 ≤ q) s.heap H locs) (hL : am_LR b0 adK ls al) (hal : al.length = y.2.2.2.1)
    (hR1 : hp'.1 - n0 ≤ R.cells) (hR2 : am_sl hp'.1 - am_sl n0 ≤ R.slots) (hR3 : 8 ≤ R.frames) (hR4 : 300 ≤ R.locals)
    (kk : ∀ (H' : Heap) (locs' : List Loc) (ls' : Array Slot), va_P D am_cl (am_ws b0 adK cA hp') H' → va_S (fun q : Nat => b0 ≤ q) s.heap H' locs' → am_LR b0 adK ls' al' → W p l e R s m args below meth c H' locs' (hp'.1 - n0) (am_sl hp'.1 - am_sl n0) Q (F0 m pc' ls' (st'.map (am_tr b0 adK)))) :
    W p l e R s m args below meth c H locs (hp.1 - n0) (am_sl hp.1 - am_sl n0) Q (F0 m pc ls (st.map (am_tr b0 adK))) := by
  obtain ⟨hx, hb, hml, hown, hts, hname⟩ := F
  have hA : ∀ q : Nat, s.heap.size ≤ q → (fun q : Nat => b0 ≤ q) q := fun q h => by show b0 ≤ q; omega
  cases i with
  | iload_n k =>
    obtain rfl : len = 1 := by simpa [am_ok] using hok
    obtain ⟨x, e, h⟩ := am_iv_some hst
    cases h
    exact lv_iload_n hx hb hd rfl (hL.2.2 _ _ e (by simp)).2 (kk _ _ _ hP hS hL)
  | iload k =>
    obtain rfl : len = 2 := by simpa [am_ok] using hok
    obtain ⟨x, e, h⟩ := am_iv_some hst
    cases h
    exact lv_iload hx hb hd (hL.2.2 _ _ e (by simp)).2 (kk _ _ _ hP hS hL)
  | aload_n k =>
    obtain rfl : len = 1 := by simpa [am_ok] using hok
    obtain ⟨x, e, h⟩ := am_rv_some hst
    cases h
    exact lv_aload_n hx hb hd rfl (hL.2.2 _ _ e (by simp)).2 (kk _ _ _ hP hS hL)
  | aload k =>
    obtain rfl : len = 2 := by simpa [am_ok] using hok
    obtain ⟨x, e, h⟩ := am_rv_some hst
    cases h
    exact lv_aload hx hb hd (hL.2.2 _ _ e (by simp)).2 (kk _ _ _ hP hS hL)
  | istore_n k =>
    obtain rfl : len = 1 := by simpa [am_ok] using hok
    obtain ⟨x, r, rfl, h⟩ := am_1i_some hst
    obtain ⟨hk, h⟩ := am_ite_some h
    cases h
    exact lv_istore_n hx hb hd rfl hL.has hk rfl (fun ls' h' => kk _ _ _ hP hS (hL.set (v := .int x) rfl rfl h'))
  | istore k =>
    obtain rfl : len = 2 := by simpa [am_ok] using hok
    obtain ⟨x, r, rfl, h⟩ := am_1i_some hst
    obtain ⟨hk, h⟩ := am_ite_some h
    cases h
    exact lv_istore hx hb hd hL.has hk rfl (fun ls' h' => kk _ _ _ hP hS (hL.set (v := .int x) rfl rfl h'))
  | astore_n k =>
    obtain rfl : len = 1 := by simpa [am_ok] using hok
    obtain ⟨x, r, rfl, h⟩ := am_1r_some hst
    obtain ⟨hk, h⟩ := am_ite_some h
    cases h
    exact lv_astore_n hx hb hd rfl hL.has hk rfl (fun ls' h' => kk _ _ _ hP hS (hL.set (v := .ref x) rfl rfl h'))
  | astore k =>
    obtain rfl : len = 2 := by simpa [am_ok] using hok
    obtain ⟨x, r, rfl, h⟩ := am_1r_some hst
    obtain ⟨hk, h⟩ := am_ite_some h
    cases h
    exact lv_astore hx hb hd hL.has hk rfl (fun ls' h' => kk _ _ _ hP hS (hL.set (v := .ref x) rfl rfl h'))
  | iinc k n =>
    obtain rfl : len = 3 := by simpa [am_ok] using hok
    obtain ⟨x, e, h⟩ := am_iv_some hst
    cases h
    have hm : (k, Value.int x) ∈ am_as b0 adK al := am_as_mem.mpr ⟨.int x, e, by simp, rfl⟩
    obtain ⟨j, hj⟩ := List.getElem?_of_mem hm
    exact lv_iinc hx hb hd hL.has hj rfl (List.getElem?_eq_some_iff.mp e).1 rfl (fun ls' h' => kk _ _ _ hP hS (hL.set (v := .int (x + Int32.ofInt n)) rfl rfl h'))
  | iconst n =>
    obtain rfl : len = 1 := by simpa [am_ok] using hok
    cases hst
    exact lv_iconst hx hb hd rfl (kk _ _ _ hP hS hL)
  | bipush n =>
    obtain rfl : len = 2 := by simpa [am_ok] using hok
    cases hst
    exact lv_bipush hx hb hd rfl (kk _ _ _ hP hS hL)
  | sipush n =>
    obtain rfl : len = 3 := by simpa [am_ok] using hok
    cases hst
    exact lv_sipush hx hb hd rfl (kk _ _ _ hP hS hL)
  | ldc idx =>
    obtain rfl : len = 2 := by simpa [am_ok] using hok
    simp only [am_stp] at hst
    cases hN : am_lkN y.1 idx with
    | some v =>
      rw [hN] at hst
      cases hst
      exact lv_ldc hx hb hown (hts _ (am_N_ok hN)) hd (kk _ _ _ hP hS hL)
    | none =>
      rw [hN] at hst
      simp only at hst
      cases hT : am_lkS y.1 idx with
      | some t =>
        rw [hT] at hst
        cases hst
        obtain ⟨w, hw⟩ := am_S_ok hT
        have hR := K.2.2.2 _ hw
        refine va_ldcS hx hb hown hR hd ?_
        have kk2 := kk _ _ _ hP hS hL
        rw [List.map_cons, show am_tr b0 adK (.ref (1000000 + t)) = .ref (adK t) from congrArg Value.ref am_adr_s] at kk2
        exact kk2
      | none =>
        rw [hT] at hst
        cases hst
  | ldc_w idx =>
    obtain rfl : len = 3 := by simpa [am_ok] using hok
    simp only [am_stp] at hst
    cases hN : am_lkN y.1 idx with
    | some v =>
      rw [hN] at hst
      cases hst
      exact lv_ldcw hx hb hown (hts _ (am_N_ok hN)) hd (kk _ _ _ hP hS hL)
    | none =>
      rw [hN] at hst
      simp only at hst
      cases hT : am_lkS y.1 idx with
      | some t =>
        rw [hT] at hst
        cases hst
        obtain ⟨w, hw⟩ := am_S_ok hT
        have hR := K.2.2.2 _ hw
        refine am_ldcSw hx hb hown hR hd ?_
        have kk2 := kk _ _ _ hP hS hL
        rw [List.map_cons, show am_tr b0 adK (.ref (1000000 + t)) = .ref (adK t) from congrArg Value.ref am_adr_s] at kk2
        exact kk2
      | none =>
        rw [hT] at hst
        cases hst
  | dup =>
    obtain rfl : len = 1 := by simpa [am_ok] using hok
    simp only [am_stp] at hst
    split at hst
    · obtain ⟨hc, h⟩ := am_ite_some hst
      cases h
      exact lv_dup hx hb hd ((am_tr_cat _ _ _).trans hc) (kk _ _ _ hP hS hL)
    · cases hst
  | dup2 =>
    obtain rfl : len = 1 := by simpa [am_ok] using hok
    simp only [am_stp] at hst
    split at hst
    · obtain ⟨hc, h⟩ := am_ite_some hst
      cases h
      exact lv_dup2_11 hx hb hd ((am_tr_cat _ _ _).trans hc.1) ((am_tr_cat _ _ _).trans hc.2) (kk _ _ _ hP hS hL)
    · cases hst
  | pop =>
    obtain rfl : len = 1 := by simpa [am_ok] using hok
    simp only [am_stp] at hst
    split at hst
    · obtain ⟨hc, h⟩ := am_ite_some hst
      cases h
      exact lv_pop hx hb hd ((am_tr_cat _ _ _).trans hc) (kk _ _ _ hP hS hL)
    · cases hst
  | iadd =>
    obtain rfl : len = 1 := by simpa [am_ok] using hok
    obtain ⟨x, z, r, rfl, h⟩ := am_2i_some hst
    cases h
    exact lv_iadd hx hb hd (kk _ _ _ hP hS hL)
  | isub =>
    obtain rfl : len = 1 := by simpa [am_ok] using hok
    obtain ⟨x, z, r, rfl, h⟩ := am_2i_some hst
    cases h
    exact lv_isub hx hb hd (kk _ _ _ hP hS hL)
  | imul =>
    obtain rfl : len = 1 := by simpa [am_ok] using hok
    obtain ⟨x, z, r, rfl, h⟩ := am_2i_some hst
    cases h
    exact lv_imul hx hb hd (kk _ _ _ hP hS hL)
  | iand =>
    obtain rfl : len = 1 := by simpa [am_ok] using hok
    obtain ⟨x, z, r, rfl, h⟩ := am_2i_some hst
    cases h
    exact lv_iand hx hb hd (kk _ _ _ hP hS hL)
  | ior =>
    obtain rfl : len = 1 := by simpa [am_ok] using hok
    obtain ⟨x, z, r, rfl, h⟩ := am_2i_some hst
    cases h
    exact lv_ior hx hb hd (kk _ _ _ hP hS hL)
  | ixor =>
    obtain rfl : len = 1 := by simpa [am_ok] using hok
    obtain ⟨x, z, r, rfl, h⟩ := am_2i_some hst
    cases h
    exact lv_ixor hx hb hd (kk _ _ _ hP hS hL)
  | ishl =>
    obtain rfl : len = 1 := by simpa [am_ok] using hok
    obtain ⟨x, z, r, rfl, h⟩ := am_2i_some hst
    cases h
    exact lv_ishl hx hb hd (kk _ _ _ hP hS hL)
  | ishr =>
    obtain rfl : len = 1 := by simpa [am_ok] using hok
    obtain ⟨x, z, r, rfl, h⟩ := am_2i_some hst
    cases h
    exact lv_ishr hx hb hd (kk _ _ _ hP hS hL)
  | iushr =>
    obtain rfl : len = 1 := by simpa [am_ok] using hok
    obtain ⟨x, z, r, rfl, h⟩ := am_2i_some hst
    cases h
    exact lv_iushr hx hb hd rfl (kk _ _ _ hP hS hL)
  | idiv =>
    obtain rfl : len = 1 := by simpa [am_ok] using hok
    obtain ⟨x, z, r, rfl, h⟩ := am_2i_some hst
    split at h
    · cases h
    · rename_i hz
      cases h
      exact lv_idiv hx hb hd hz (kk _ _ _ hP hS hL)
  | irem =>
    obtain rfl : len = 1 := by simpa [am_ok] using hok
    obtain ⟨x, z, r, rfl, h⟩ := am_2i_some hst
    split at h
    · cases h
    · rename_i hz
      cases h
      exact lv_irem hx hb hd hz (kk _ _ _ hP hS hL)
  | i2b =>
    obtain rfl : len = 1 := by simpa [am_ok] using hok
    obtain ⟨x, r, rfl, h⟩ := am_1i_some hst
    cases h
    exact lv_i2b hx hb hd rfl (kk _ _ _ hP hS hL)
  | i2s =>
    obtain rfl : len = 1 := by simpa [am_ok] using hok
    obtain ⟨x, r, rfl, h⟩ := am_1i_some hst
    cases h
    exact lv_i2s hx hb hd rfl (kk _ _ _ hP hS hL)
  | i2l =>
    obtain rfl : len = 1 := by simpa [am_ok] using hok
    obtain ⟨x, r, rfl, h⟩ := am_1i_some hst
    cases h
    exact lv_i2l hx hb hd rfl (kk _ _ _ hP hS hL)
  | ladd =>
    obtain rfl : len = 1 := by simpa [am_ok] using hok
    obtain ⟨x, z, r, rfl, h⟩ := am_2l_some hst
    cases h
    exact lv_ladd hx hb hd (kk _ _ _ hP hS hL)
  | lcmp =>
    obtain rfl : len = 1 := by simpa [am_ok] using hok
    obtain ⟨x, z, r, rfl, h⟩ := am_2l_some hst
    cases h
    exact W.lcmp hx hb hd (kk _ _ _ hP hS hL)
  | goto off =>
    obtain rfl : len = 3 := by simpa [am_ok] using hok
    simp only [am_stp] at hst
    obtain ⟨t, ht, h⟩ := am_tg_some hst
    cases h
    exact lv_goto hx hb hd ht (kk _ _ _ hP hS hL)
  | if_icmp cd off =>
    obtain rfl : len = 3 := by simpa [am_ok] using hok
    obtain ⟨x, z, r, rfl, h⟩ := am_2i_some hst
    obtain ⟨t, ht, h⟩ := am_tg_some h
    cases cd with
    | eq =>
      refine lv_icmp_eq hx hb hd ht (fun q => ?_) (fun q => ?_)
      · rw [if_pos (by simp [am_cm, q])] at h
        cases h
        exact kk _ _ _ hP hS hL
      · rw [if_neg (by simp [am_cm, q])] at h
        cases h
        exact kk _ _ _ hP hS hL
    | ne =>
      refine lv_icmp_ne hx hb hd ht (fun q => ?_) (fun q => ?_)
      · rw [if_pos (by simp [am_cm, q])] at h
        cases h
        exact kk _ _ _ hP hS hL
      · rw [if_neg (by simp [am_cm, q])] at h
        cases h
        exact kk _ _ _ hP hS hL
    | lt =>
      refine lv_icmp_lt hx hb hd ht (fun q => ?_) (fun q => ?_)
      · rw [if_pos (by simp [am_cm, q])] at h
        cases h
        exact kk _ _ _ hP hS hL
      · rw [if_neg (by simp [am_cm, q])] at h
        cases h
        exact kk _ _ _ hP hS hL
    | ge =>
      refine lv_icmp_ge hx hb hd ht (fun q => ?_) (fun q => ?_)
      · rw [if_pos (by simp [am_cm, q])] at h
        cases h
        exact kk _ _ _ hP hS hL
      · rw [if_neg (by simp [am_cm, q])] at h
        cases h
        exact kk _ _ _ hP hS hL
    | gt =>
      refine lv_icmp_gt hx hb hd ht (fun q => ?_) (fun q => ?_)
      · rw [if_pos (by simp [am_cm, q])] at h
        cases h
        exact kk _ _ _ hP hS hL
      · rw [if_neg (by simp [am_cm, q])] at h
        cases h
        exact kk _ _ _ hP hS hL
    | le =>
      refine lv_icmp_le hx hb hd ht (fun q => ?_) (fun q => ?_)
      · rw [if_pos (by simp [am_cm, q])] at h
        cases h
        exact kk _ _ _ hP hS hL
      · rw [if_neg (by simp [am_cm, q])] at h
        cases h
        exact kk _ _ _ hP hS hL
  | ifCond cd off =>
    obtain rfl : len = 3 := by simpa [am_ok] using hok
    obtain ⟨x, r, rfl, h⟩ := am_1i_some hst
    obtain ⟨t, ht, h⟩ := am_tg_some h
    cases cd with
    | eq =>
      refine lv_if_eq hx hb hd ht (fun q => ?_) (fun q => ?_)
      · rw [if_pos (by simp [am_cm, q])] at h
        cases h
        exact kk _ _ _ hP hS hL
      · rw [if_neg (by simp [am_cm, q])] at h
        cases h
        exact kk _ _ _ hP hS hL
    | ne =>
      refine lv_if_ne hx hb hd ht (fun q => ?_) (fun q => ?_)
      · rw [if_pos (by simp [am_cm, q])] at h
        cases h
        exact kk _ _ _ hP hS hL
      · rw [if_neg (by simp [am_cm, q])] at h
        cases h
        exact kk _ _ _ hP hS hL
    | lt =>
      refine lv_if_lt hx hb hd ht (fun q => ?_) (fun q => ?_)
      · rw [if_pos (by simp [am_cm, q])] at h
        cases h
        exact kk _ _ _ hP hS hL
      · rw [if_neg (by simp [am_cm, q])] at h
        cases h
        exact kk _ _ _ hP hS hL
    | ge =>
      refine lv_if_ge hx hb hd ht (fun q => ?_) (fun q => ?_)
      · rw [if_pos (by simp [am_cm, q])] at h
        cases h
        exact kk _ _ _ hP hS hL
      · rw [if_neg (by simp [am_cm, q])] at h
        cases h
        exact kk _ _ _ hP hS hL
    | gt =>
      refine lv_if_gt hx hb hd ht (fun q => ?_) (fun q => ?_)
      · rw [if_pos (by simp [am_cm, q])] at h
        cases h
        exact kk _ _ _ hP hS hL
      · rw [if_neg (by simp [am_cm, q])] at h
        cases h
        exact kk _ _ _ hP hS hL
    | le =>
      refine lv_if_le hx hb hd ht (fun q => ?_) (fun q => ?_)
      · rw [if_pos (by simp [am_cm, q])] at h
        cases h
        exact kk _ _ _ hP hS hL
      · rw [if_neg (by simp [am_cm, q])] at h
        cases h
        exact kk _ _ _ hP hS hL
  | tableswitch d lo hi offs =>
    obtain ⟨x, r, rfl, h⟩ := am_1i_some hst
    split at h
    · rename_i hz
      obtain ⟨t, ht, h⟩ := am_tg_some h
      cases h
      exact lv_tableOut hx hb hd hz ht (kk _ _ _ hP hS hL)
    · rename_i hz
      split at h
      · rename_i off ho
        obtain ⟨t, ht, h⟩ := am_tg_some h
        cases h
        exact lv_tableIn hx hb hd (fun q => hz (Or.inl q)) (fun q => hz (Or.inr q)) ho ht (kk _ _ _ hP hS hL)
      · cases h
  | lookupswitch d ps =>
    obtain ⟨x, r, rfl, h⟩ := am_1i_some hst
    obtain ⟨hz, h⟩ := am_ite_some h
    obtain ⟨t, ht, h⟩ := am_tg_some h
    cases h
    exact lv_lookup hx hb hd hz rfl ht (kk _ _ _ hP hS hL)
  | getfield idx =>
    obtain rfl : len = 3 := by simpa [am_ok] using hok
    obtain ⟨a, r, rfl, h⟩ := am_1r_some hst
    cases hF : am_lkF y.1 idx with
    | none => rw [hF] at h; cases h
    | some ck =>
      obtain ⟨ci, k⟩ := ck
      rw [hF] at h
      obtain ⟨⟨ha, hk⟩, h⟩ := am_ite_some h
      cases h
      obtain ⟨h9, hn, hw⟩ := am_F_ok hF
      obtain ⟨-, h2⟩ := am_kd_obj hk h9
      have hg := am_ws_get (b0 := b0) (adK := adK) (cA := cA) ha
      rw [am_ce_obj hk, h2] at hg
      rw [List.map_cons, show am_tr b0 adK (.ref a) = .ref (b0 + a) from congrArg Value.ref (am_adr_lt (by omega))]
      exact va_get hx hb hts (am_lay h9) hown K.1 hP a hg (am_cl_get h9) k hn (hts _ hw) (fun _ q => q) (am_fs_get hn) hd (kk _ _ _ hP hS hL)
  | putfield idx =>
    obtain rfl : len = 3 := by simpa [am_ok] using hok
    simp only [am_stp] at hst
    split at hst
    · rename_i v a r
      cases hF : am_lkF y.1 idx with
      | none => rw [hF] at hst; cases hst
      | some ck =>
        obtain ⟨ci, k⟩ := ck
        rw [hF] at hst
        obtain ⟨⟨ha, hk, hf, hini⟩, h⟩ := am_ite_some hst
        cases h
        obtain ⟨h9, hn, hw⟩ := am_F_ok hF
        obtain ⟨-, h2⟩ := am_kd_obj hk h9
        have hg := am_ws_get (b0 := b0) (adK := adK) (cA := cA) ha
        rw [am_ce_obj hk, h2] at hg
        rw [List.map_cons, List.map_cons, show am_tr b0 adK (.ref a) = .ref (b0 + a) from congrArg Value.ref (am_adr_lt (by omega))]
        have hset : (am_ws b0 adK cA hp).set a (b0 + a, .inr (ci, ((List.range (am_nf ci)).map (fun j => am_tr b0 adK (hp.2 a j))).set k (am_tr b0 adK v))) = am_ws b0 adK cA (hp.1, am_up hp.2 a k v) := by
          refine am_ws_set ha ?_ (fun i hi => ?_)
          · rw [am_ce_obj hk, h2, am_fs_set]
            congr 3
            apply List.map_congr_left
            intro j _
            simp [am_up]
          · funext j
            simp [am_up, hi]
        have hnr : narrow (am_ty ci k) (am_tr b0 adK v) = am_tr b0 adK v ∧ fits (am_ty ci k) (am_tr b0 adK v) = true := am_fit_ok hf
        by_cases hfin : (am_T ci k).2.2.2 = true
        · obtain ⟨i1, i2⟩ := hini hfin
          refine va_putF hx hb hts (am_lay h9) (am_ty ci) (am_ty_ok h9) (am_nm_ok h9) hown K.1 hP (am_ws_D _ _ _ _) hS a hg (am_cl_get h9) k hn (hts _ hw) (fun _ q => q) hfin (by rw [hname]; exact of_decide_eq_true i1) (by rw [i2]; exact am_decl h9 hn) (am_ty_ok h9 k hn) hnr.1 hnr.2 (by simpa using hn) hd (fun H1 locs1 q1 q2 q3 => ?_)
          rw [hset] at q1
          exact kk _ _ _ q1 q3 hL
        · refine va_put hx hb hts (am_lay h9) (am_ty ci) (am_ty_ok h9) (am_nm_ok h9) hown K.1 hP (am_ws_D _ _ _ _) hS a hg (am_cl_get h9) k hn (hts _ hw) (fun _ q => q) (by simpa using hfin) (am_ty_ok h9 k hn) hnr.1 hnr.2 (by simpa using hn) hd (fun H1 locs1 q1 q2 q3 => ?_)
          rw [hset] at q1
          exact kk _ _ _ q1 q3 hL
    · cases hst
  | iaload =>
    obtain rfl : len = 1 := by simpa [am_ok] using hok
    simp only [am_stp] at hst
    split at hst
    · rename_i i a r
      obtain ⟨⟨ha, hk, hin⟩, h⟩ := am_ite_some hst
      split at h
      · rename_i x hv
        cases h
        have hg := am_ws_get (b0 := b0) (adK := adK) (cA := cA) ha
        rw [am_ce_0 hk] at hg
        rw [List.map_cons, List.map_cons, show am_tr b0 adK (.ref a) = .ref (b0 + a) from congrArg Value.ref (am_adr_lt (by omega))]
        refine va_iald hx hb K.1 hP a 0 hg rfl (am_in_iff.mp hin) hd ?_
        rw [hv]
        exact kk _ _ _ hP hS hL
      · cases h
    · cases hst
  | iastore =>
    obtain rfl : len = 1 := by simpa [am_ok] using hok
    simp only [am_stp] at hst
    split at hst
    · rename_i x i a r
      obtain ⟨⟨ha, hk, hin⟩, h⟩ := am_ite_some hst
      cases h
      have hg := am_ws_get (b0 := b0) (adK := adK) (cA := cA) ha
      rw [am_ce_0 hk] at hg
      rw [List.map_cons, List.map_cons, List.map_cons, show am_tr b0 adK (.ref a) = .ref (b0 + a) from congrArg Value.ref (am_adr_lt (by omega))]
      refine va_iast hx hb K.1 hP (am_ws_D _ _ _ _) hS a 0 hg rfl (am_in_iff.mp hin) hd (fun H1 locs1 q1 q2 q3 => ?_)
      have hset : (am_ws b0 adK cA hp).set a (b0 + a, .inl (cA 0, (am_kd a).2, .inl (upd (fun j => am_ai (hp.2 a j)) i.toNatClampNeg x))) = am_ws b0 adK cA (hp.1, am_up hp.2 a i.toNatClampNeg (.int x)) := by
        refine am_ws_set ha ?_ (fun j hj => ?_)
        · rw [am_ce_0 hk]
          congr 5
          funext j
          by_cases e : j = i.toNatClampNeg <;> simp [upd, am_up, e, am_ai]
        · funext k
          simp [am_up, hj]
      rw [hset] at q1
      exact kk _ _ _ q1 q3 hL
    · cases hst
  | aaload =>
    obtain rfl : len = 1 := by simpa [am_ok] using hok
    simp only [am_stp] at hst
    split at hst
    · rename_i i a r
      obtain ⟨⟨ha, hk1, hk3, hin⟩, h⟩ := am_ite_some hst
      split at h
      · rename_i x hv
        cases h
        have hg := am_ws_get (b0 := b0) (adK := adK) (cA := cA) ha
        rw [am_ce_q rfl hk1 hk3] at hg
        obtain ⟨C, hC⟩ : ∃ C, (am_tys cA)[(am_kd a).1]? = some (cA (am_kd a).1, .object C) := am_tys_get hk1 hk3
        rw [List.map_cons, List.map_cons, show am_tr b0 adK (.ref a) = .ref (b0 + a) from congrArg Value.ref (am_adr_lt (by omega))]
        refine va_aldq hx hb K.1 hP a (am_kd a).1 hg hC (am_in_iff.mp hin) hd ?_
        rw [hv]
        exact kk _ _ _ hP hS hL
      · cases h
    · cases hst
  | aastore =>
    obtain rfl : len = 1 := by simpa [am_ok] using hok
    simp only [am_stp] at hst
    split at hst
    · rename_i v i a r
      obtain ⟨⟨ha, hin, hv⟩, h⟩ := am_ite_some hst
      cases h
      have hk1 : 1 ≤ (am_kd a).1 := by omega
      have hk3 : (am_kd a).1 ≤ 3 := by omega
      have hg := am_ws_get (b0 := b0) (adK := adK) (cA := cA) ha
      rw [am_ce_q rfl hk1 hk3] at hg
      have hset : ∀ z, am_adr b0 adK v = z → (am_ws b0 adK cA hp).set a (b0 + a, .inl (cA (am_kd a).1, (am_kd a).2, .inr (.inr (.inr (.inr (va_up (fun j => am_ar b0 adK (hp.2 a j)) i.toNatClampNeg (some z))))))) = am_ws b0 adK cA (hp.1, am_up hp.2 a i.toNatClampNeg (.ref v)) := by
        intro z hz
        refine am_ws_set ha ?_ (fun j hj => ?_)
        · rw [am_ce_q rfl hk1 hk3]
          congr 8
          funext j
          by_cases e : j = i.toNatClampNeg <;> simp [va_up, am_up, e, am_ar, hz]
        · funext k
          simp [am_up, hj]
      rw [List.map_cons, List.map_cons, List.map_cons, show am_tr b0 adK (.ref a) = .ref (b0 + a) from congrArg Value.ref (am_adr_lt (by omega)), show am_tr b0 adK (.ref v) = .ref (am_adr b0 adK v) from rfl]
      rcases hv with ⟨k1, k2, k3⟩ | ⟨k1, k2, k3⟩ | ⟨k1, k2, k3⟩
      · have hv := am_ws_get (b0 := b0) (adK := adK) (cA := cA) k2
        rw [am_ce_obj (k := 5) k3] at hv
        rw [k1] at hg hset
        rw [am_adr_lt (a := v) (by omega)]
        refine va_astq hx hb K.1 hP (am_ws_D _ _ _ _) hS a 1 v 5 (r := (RX5, TX5, 5)) hg rfl hv rfl (am_in_iff.mp hin) hd (fun H1 locs1 q1 q2 q3 => ?_)
        rw [hset _ (am_adr_lt (by omega))] at q1
        exact kk _ _ _ q1 q3 hL
      · have hv := am_ws_get (b0 := b0) (adK := adK) (cA := cA) k2
        rw [am_ce_obj (k := 4) k3] at hv
        rw [k1] at hg hset
        rw [am_adr_lt (a := v) (by omega)]
        refine va_astq hx hb K.1 hP (am_ws_D _ _ _ _) hS a 2 v 4 (r := (RX4, TX4, 3)) hg rfl hv rfl (am_in_iff.mp hin) hd (fun H1 locs1 q1 q2 q3 => ?_)
        rw [hset _ (am_adr_lt (by omega))] at q1
        exact kk _ _ _ q1 q3 hL
      · rw [k1] at hg hset
        have k2 : @LE.le Nat _ 1000000 v := k2
        have k3 : @LT.lt Nat _ v 1000015 := k3
        obtain ⟨t, rfl⟩ : ∃ t : Nat, v = 1000000 + t := ⟨v - 1000000, (Nat.add_sub_cancel' k2).symm⟩
        rw [am_adr_s]
        refine va_astqM hx hb K.1 hP (am_ws_D _ _ _ _) hS a 3 (E := "java/lang/String") hg rfl ?_ (am_in_iff.mp hin) hd (fun H1 locs1 q1 q2 q3 => ?_)
        · obtain ⟨cell, h1, h2, h3, -⟩ := (Z.1 t (by omega)).1.kept hS.2.1
          obtain ⟨kC, hkC, -⟩ := Vm.findClass_spec h3
          exact ⟨cell, h1, h2, ⟨kC, hkC⟩, fun comp hc => by rw [Option.some.inj (hc.symm.trans h3)]; exact va_asg _ _⟩
        · rw [hset _ am_adr_s] at q1
          exact kk _ _ _ q1 q3 hL
    · cases hst
  | arraylength =>
    obtain rfl : len = 1 := by simpa [am_ok] using hok
    obtain ⟨a, r, rfl, h⟩ := am_1r_some hst
    obtain ⟨⟨ha, hk⟩, h⟩ := am_ite_some h
    cases h
    have hg := am_ws_get (b0 := b0) (adK := adK) (cA := cA) ha
    rw [List.map_cons, show am_tr b0 adK (.ref a) = .ref (b0 + a) from congrArg Value.ref (am_adr_lt (by omega))]
    rcases Nat.eq_zero_or_pos (am_kd a).1 with h0 | h0
    · rw [am_ce_0 h0] at hg
      exact va_alen hx hb K.1 hP a 0 hg rfl rfl hd (kk _ _ _ hP hS hL)
    · rw [am_ce_q rfl h0 hk] at hg
      obtain ⟨C, hC⟩ : ∃ C, (am_tys cA)[(am_kd a).1]? = some (cA (am_kd a).1, .object C) := am_tys_get h0 hk
      exact va_alen hx hb K.1 hP a (am_kd a).1 hg hC rfl hd (kk _ _ _ hP hS hL)
  | new idx =>
    obtain rfl : len = 3 := by simpa [am_ok] using hok
    simp only [am_stp] at hst
    cases hF : am_lkL y.1 idx with
    | none => rw [hF] at hst; cases hst
    | some ci =>
      rw [hF] at hst
      obtain ⟨⟨hk, h9⟩, h⟩ := am_ite_some hst
      cases h
      dsimp only at hR1 hR2
      obtain ⟨-, h2⟩ := am_kd_obj hk h9
      have hi := am_inst_c ⟨ci, h9⟩
      have e1 : am_sl (hp.1 + 1) = am_sl hp.1 + am_nf ci := by rw [← h2]; rfl
      have hm := am_sl_mono hn
      refine va_new hx hb hts (am_lay h9) (am_ty ci) (am_ty_ok h9) hown (hts _ ((am_L_ok hF).1 h9)) (hts _ hi.1) (hts _ hi.2) K.1 hP (am_ws_D _ _ _ _) hS hA (am_cl_get h9) (fs := (List.range (am_nf ci)).map (fun j => am_tr b0 adK (am_dv hp.1 j))) (fun j hj => ?_) (by omega) (by omega) hd (fun q H1 q1 q2 q3 => ?_)
      · have ed : am_dv hp.1 j = defaultValue (am_ty ci j) := by unfold am_dv; rw [hk, Nat.add_comm]
        rw [vp_V, List.getD_eq_getElem?_getD, am_fs_get hj, ed]
        cases am_ty ci j <;> rfl
      · refine am_wsz (fun hz => ?_)
        have hq := am_fresh q1 q2 (by omega)
        subst hq
        rw [← h2, ← am_ce_obj (cA := cA) hk, ← am_ws_push] at q1
        refine W.cs (cells' := hp.1 + 1 - n0) (slots' := am_sl (hp.1 + 1) - am_sl n0) (by omega) (by omega) ?_
        have kk2 := kk _ _ _ q1 q3 hL
        rw [List.map_cons, show am_tr b0 adK (.ref hp.1) = .ref (b0 + hp.1) from congrArg Value.ref (am_adr_lt (by omega))] at kk2
        exact kk2
  | newarray ty =>
    obtain rfl : len = 2 := by simpa [am_ok] using hok
    cases ty with
    | int =>
      obtain ⟨x, r, rfl, h⟩ := am_1i_some hst
      obtain ⟨⟨hk, hx2⟩, h⟩ := am_ite_some h
      cases h
      dsimp only at hR1 hR2
      have h12 := am_kd_lt (a := hp.1) (by omega)
      have hle := (am_kd_in h12).2.1
      have e1 : am_sl (hp.1 + 1) = am_sl hp.1 + (am_kd hp.1).2 := rfl
      have hm := am_sl_mono hn
      subst hx2
      refine va_newa (atype := .int) (N' := (am_kd hp.1).2) (a0 := ((am_kd hp.1).2, .inl (fun _ => 0))) hx hb (hts _ am_misc.2.2.2.2.2) rfl K.1 hP (am_ws_D _ _ _ _) hS hA (fun _ => rfl) (nI_pos (by omega)) (nI_clamp (by omega)) (Nat.le_trans (Nat.mul_le_mul_right _ hle) (by decide)) (by omega) (by omega) hd (fun q cB H1 q0 q1 q2 q3 => ?_)
      have hcB : cB = cA 0 := by
        have g1 := (q0.2 4 _ rfl).2
        have g2 := (K.1.2 0 _ rfl).2
        exact Option.some.inj (g1.symm.trans g2)
      subst hcB
      refine am_wsz (fun hz => ?_)
      have hq := am_fresh q1 q2 (by omega)
      subst hq
      have ed : am_ce b0 adK cA hp.1 (am_dv hp.1) = .inl (cA 0, (am_kd hp.1).2, .inl (fun _ => 0)) := by
        rw [am_ce_0 hk]
        congr 4
        funext j
        unfold am_dv
        rw [hk]
        rfl
      rw [← ed, ← am_ws_push] at q1
      refine W.cs (cells' := hp.1 + 1 - n0) (slots' := am_sl (hp.1 + 1) - am_sl n0) (by omega) (by omega) ?_
      have kk2 := kk _ _ _ q1 q3 hL
      rw [List.map_cons, show am_tr b0 adK (.ref hp.1) = .ref (b0 + hp.1) from congrArg Value.ref (am_adr_lt (by omega))] at kk2
      exact kk2
    | _ => cases hst
  | anewarray idx =>
    obtain rfl : len = 3 := by simpa [am_ok] using hok
    obtain ⟨x, r, rfl, h⟩ := am_1i_some hst
    cases hF : am_lkL y.1 idx with
    | none => rw [hF] at h; cases h
    | some ci =>
      rw [hF] at h
      obtain ⟨⟨hx2, hk⟩, h⟩ := am_ite_some h
      cases h
      dsimp only at hR1 hR2
      have h12 := am_kd_lt (a := hp.1) (by omega)
      have hle := (am_kd_in h12).2.1
      have e1 : am_sl (hp.1 + 1) = am_sl hp.1 + (am_kd hp.1).2 := rfl
      have hm := am_sl_mono hn
      subst hx2
      have key : ∀ (t : Nat) (C : String), (am_kd hp.1).1 = t → 1 ≤ t → t ≤ 3 → Cond.classLink (am_cn y.1) idx C ∈ am_tG → va_AO C s → (am_tys cA)[t]? = some (cA t, .object C) → W p l e R s m args below meth c H locs (hp.1 - n0) (am_sl hp.1 - am_sl n0) Q (F0 m pc ls (.int (am_kd hp.1).2.toInt32 :: r.map (am_tr b0 adK))) := by
        intro t C ht h1 h3 hw hao hty
        refine va_newq (N' := (am_kd hp.1).2) hx hb hown (hts _ hw) hao K.1 hP (am_ws_D _ _ _ _) hS hA (nI_pos (by omega)) (nI_clamp (by omega)) (by omega) (by omega) (by omega) hd (fun q cB H1 q0 q1 q2 q3 => ?_)
        have hcB : cB = cA t := by
          obtain ⟨_, _, _, _, _, g1⟩ := (q0.2 4 _ rfl).2
          obtain ⟨_, _, _, _, _, g2⟩ := (K.1.2 t _ hty).2
          exact Option.some.inj (g1.symm.trans g2)
        subst hcB
        refine am_wsz (fun hz => ?_)
        have hq := am_fresh q1 q2 (by omega)
        subst hq
        have ed : am_ce b0 adK cA hp.1 (am_dv hp.1) = .inl (cA t, (am_kd hp.1).2, .inr (.inr (.inr (.inr (fun _ => none))))) := by
          rw [am_ce_q ht h1 h3]
          congr 7
          funext j
          unfold am_dv
          rw [ht]
          match t, h1, h3 with
          | 1, _, _ => rfl
          | 2, _, _ => rfl
          | 3, _, _ => rfl
        rw [← ed, ← am_ws_push] at q1
        refine W.cs (cells' := hp.1 + 1 - n0) (slots' := am_sl (hp.1 + 1) - am_sl n0) (by omega) (by omega) ?_
        have kk2 := kk _ _ _ q1 q3 hL
        rw [List.map_cons, show am_tr b0 adK (.ref hp.1) = .ref (b0 + hp.1) from congrArg Value.ref (am_adr_lt (by omega))] at kk2
        exact kk2
      rcases hk with ⟨rfl, hk⟩ | ⟨rfl, hk⟩ | ⟨rfl, hk⟩
      · exact key 1 _ hk (by decide) (by decide) ((am_L_ok hF).1 (by decide)) K.2.2.1.1 rfl
      · exact key 2 _ hk (by decide) (by decide) ((am_L_ok hF).1 (by decide)) K.2.2.1.2.1 rfl
      · exact key 3 _ hk (by decide) (by decide) ((am_L_ok hF).2 (by decide)) K.2.2.1.2.2 rfl
  | invokespecial idx =>
    obtain rfl : len = 3 := by simpa [am_ok] using hok
    simp only [am_stp] at hst
    split at hst
    · rename_i hF
      obtain ⟨a, r, rfl, h⟩ := am_1r_some hst
      obtain ⟨hr, h⟩ := am_ite_some h
      cases h
      obtain ⟨w, hw⟩ := am_X_ok hF
      have hw := am_wd_in hw
      refine W.objInit hx hb hown (hts _ hw) (hts _ am_misc.1) (hts _ am_misc.2.1) rfl (by rw [hml]; exact hL.1.trans hal) rfl hd (by omega) (by show 2 * 0 + _ + 12 ≤ _; rw [am_map_cat]; omega) ?_
      exact kk _ _ _ hP hS hL
    · cases hst
  | invokevirtual idx =>
    obtain rfl : len = 3 := by simpa [am_ok] using hok
    simp only [am_stp] at hst
    split at hst
    · rename_i hF
      obtain ⟨a, r, rfl, h⟩ := am_1r_some hst
      obtain ⟨⟨ha, hb2, hr⟩, h⟩ := am_ite_some h
      cases h
      have ha : @LE.le Nat _ 1000000 a := ha
      have hb2 : @LT.lt Nat _ a 1000015 := hb2
      obtain ⟨t, rfl⟩ : ∃ t : Nat, a = 1000000 + t := ⟨a - 1000000, (Nat.add_sub_cancel' ha).symm⟩
      obtain ⟨w, hw⟩ := am_X_ok hF
      have hw := am_wd_in hw
      have kk2 := kk _ _ _ hP hS hL
      rw [Nat.add_sub_cancel_left] at kk2
      rw [List.map_cons, show am_tr b0 adK (.ref (1000000 + t)) = .ref (adK t) from congrArg Value.ref am_adr_s]
      exact hlen t (by omega) (pc := pc) (idx := idx) (r.map (am_tr b0 adK)) H locs ls hS (hL.1.trans hal) hw hd (by rw [am_map_cat]; exact hr) (by omega) (by omega) kk2
    · rename_i hF
      split at hst
      · rename_i i a r
        obtain ⟨⟨ha, hb2, hin, hr⟩, h⟩ := am_ite_some hst
        cases h
        have ha : @LE.le Nat _ 1000000 a := ha
        have hb2 : @LT.lt Nat _ a 1000015 := hb2
        obtain ⟨t, rfl⟩ : ∃ t : Nat, a = 1000000 + t := ⟨a - 1000000, (Nat.add_sub_cancel' ha).symm⟩
        obtain ⟨w, hw⟩ := am_X_ok hF
        have hw := am_wd_in hw
        have kk2 := kk _ _ _ hP hS hL
        rw [Nat.add_sub_cancel_left] at kk2 hin
        rw [List.map_cons, List.map_cons, show am_tr b0 adK (.ref (1000000 + t)) = .ref (adK t) from congrArg Value.ref am_adr_s]
        exact hchr t (by omega) (pc := pc) (idx := idx) (am_in_iff.mp hin) (r.map (am_tr b0 adK)) H locs ls hS (hL.1.trans hal) hw hd (by rw [am_map_cat]; exact hr) (by omega) (by omega) kk2
      · cases hst
    · cases hst
  | invokestatic idx =>
    obtain rfl : len = 3 := by simpa [am_ok] using hok
    simp only [am_stp] at hst
    split at hst
    · rename_i hF
      split at hst
      · rename_i n dp b sp a r
        obtain ⟨⟨ha, hb2, hka, hkb, h1, h2, h3, h4, h5, hr⟩, h⟩ := am_ite_some hst
        cases h
        obtain ⟨w, hw⟩ := am_X_ok hF
        have hw := am_wd_in hw
        have hg := am_ws_get (b0 := b0) (adK := adK) (cA := cA) ha
        rw [am_ce_0 hka] at hg
        have hg2 := am_ws_get (b0 := b0) (adK := adK) (cA := cA) hb2
        rw [am_ce_0 hkb] at hg2
        rw [List.map_cons, List.map_cons, List.map_cons, List.map_cons, List.map_cons, show am_tr b0 adK (.ref a) = .ref (b0 + a) from congrArg Value.ref (am_adr_lt (by omega)), show am_tr b0 adK (.ref b) = .ref (b0 + b) from congrArg Value.ref (am_adr_lt (by omega))]
        refine va_copyi (ty := .int) hx hb (hml.trans (hL.1.trans hal).symm) hown (hts _ hw) (hts _ am_misc.2.2.1) (hts _ am_misc.2.2.2.1) (hts _ am_misc.2.2.2.2.1) K.1 hP (am_ws_D _ _ _ _) hS a b 0 0 hg hg2 rfl rfl rfl h1 h2 h3 h4 h5 (fun _ _ => rfl) (by omega) (by rw [am_map_cat]; have := am_nfw; omega) hd (fun H1 locs1 q1 q2 q3 => ?_)
        have hset : (am_ws b0 adK cA hp).set b (b0 + b, .inl (cA 0, (am_kd b).2, .inl (va_cpy (fun j => am_ai (hp.2 a j)) (fun j => am_ai (hp.2 b j)) sp.toNatClampNeg dp.toNatClampNeg n.toNatClampNeg))) = am_ws b0 adK cA (hp.1, am_cpy hp.2 a sp.toNatClampNeg b dp.toNatClampNeg n.toNatClampNeg) := by
          refine am_ws_set hb2 ?_ (fun j hj => ?_)
          · rw [am_ce_0 hkb]
            congr 5
            funext j
            by_cases e : dp.toNatClampNeg ≤ j ∧ j < dp.toNatClampNeg + n.toNatClampNeg <;> simp [va_cpy, am_cpy, e]
          · funext k
            simp [am_cpy, hj]
        rw [hset] at q1
        exact kk _ _ _ q1 q3 hL
      · cases hst
    · cases hst
  | _ => cases hst
end AMS
end
section
/-! runs of the small machine are runs of the machine -/
theorem am_stp_al {own : Nat} {ini : Bool} {i : Instr} {pc pc' : Nat} {al al' st st' : List Value} {hp hp' : am_H} (hst : am_stp own ini i pc al st hp = some (pc', al', st', hp')) : al'.length = al.length ∧ hp.1 ≤ hp'.1 := by
  cases i with
  | iload_n k =>
    obtain ⟨x, e, h⟩ := am_iv_some hst
    cases h; exact ⟨rfl, Nat.le_refl _⟩
  | iload k =>
    obtain ⟨x, e, h⟩ := am_iv_some hst
    cases h; exact ⟨rfl, Nat.le_refl _⟩
  | aload_n k =>
    obtain ⟨x, e, h⟩ := am_rv_some hst
    cases h; exact ⟨rfl, Nat.le_refl _⟩
  | aload k =>
    obtain ⟨x, e, h⟩ := am_rv_some hst
    cases h; exact ⟨rfl, Nat.le_refl _⟩
  | istore_n k =>
    obtain ⟨x, r, rfl, h⟩ := am_1i_some hst
    obtain ⟨hc, h⟩ := am_ite_some h
    cases h; exact ⟨List.length_set, Nat.le_refl _⟩
  | istore k =>
    obtain ⟨x, r, rfl, h⟩ := am_1i_some hst
    obtain ⟨hc, h⟩ := am_ite_some h
    cases h; exact ⟨List.length_set, Nat.le_refl _⟩
  | astore_n k =>
    obtain ⟨x, r, rfl, h⟩ := am_1r_some hst
    obtain ⟨hc, h⟩ := am_ite_some h
    cases h; exact ⟨List.length_set, Nat.le_refl _⟩
  | astore k =>
    obtain ⟨x, r, rfl, h⟩ := am_1r_some hst
    obtain ⟨hc, h⟩ := am_ite_some h
    cases h; exact ⟨List.length_set, Nat.le_refl _⟩
  | iinc k n =>
    obtain ⟨x, e, h⟩ := am_iv_some hst
    cases h; exact ⟨List.length_set, Nat.le_refl _⟩
  | iconst n =>
    cases hst; exact ⟨rfl, Nat.le_refl _⟩
  | bipush n =>
    cases hst; exact ⟨rfl, Nat.le_refl _⟩
  | sipush n =>
    cases hst; exact ⟨rfl, Nat.le_refl _⟩
  | ldc idx =>
    simp only [am_stp] at hst
    split at hst
    · cases hst; exact ⟨rfl, Nat.le_refl _⟩
    · split at hst
      · cases hst; exact ⟨rfl, Nat.le_refl _⟩
      · cases hst
  | ldc_w idx =>
    simp only [am_stp] at hst
    split at hst
    · cases hst; exact ⟨rfl, Nat.le_refl _⟩
    · split at hst
      · cases hst; exact ⟨rfl, Nat.le_refl _⟩
      · cases hst
  | dup =>
    simp only [am_stp] at hst
    split at hst
    · obtain ⟨hc, h⟩ := am_ite_some hst
      cases h; exact ⟨rfl, Nat.le_refl _⟩
    · cases hst
  | dup2 =>
    simp only [am_stp] at hst
    split at hst
    · obtain ⟨hc, h⟩ := am_ite_some hst
      cases h; exact ⟨rfl, Nat.le_refl _⟩
    · cases hst
  | pop =>
    simp only [am_stp] at hst
    split at hst
    · obtain ⟨hc, h⟩ := am_ite_some hst
      cases h; exact ⟨rfl, Nat.le_refl _⟩
    · cases hst
  | iadd =>
    obtain ⟨x, z, r, rfl, h⟩ := am_2i_some hst
    cases h; exact ⟨rfl, Nat.le_refl _⟩
  | isub =>
    obtain ⟨x, z, r, rfl, h⟩ := am_2i_some hst
    cases h; exact ⟨rfl, Nat.le_refl _⟩
  | imul =>
    obtain ⟨x, z, r, rfl, h⟩ := am_2i_some hst
    cases h; exact ⟨rfl, Nat.le_refl _⟩
  | iand =>
    obtain ⟨x, z, r, rfl, h⟩ := am_2i_some hst
    cases h; exact ⟨rfl, Nat.le_refl _⟩
  | ior =>
    obtain ⟨x, z, r, rfl, h⟩ := am_2i_some hst
    cases h; exact ⟨rfl, Nat.le_refl _⟩
  | ixor =>
    obtain ⟨x, z, r, rfl, h⟩ := am_2i_some hst
    cases h; exact ⟨rfl, Nat.le_refl _⟩
  | ishl =>
    obtain ⟨x, z, r, rfl, h⟩ := am_2i_some hst
    cases h; exact ⟨rfl, Nat.le_refl _⟩
  | ishr =>
    obtain ⟨x, z, r, rfl, h⟩ := am_2i_some hst
    cases h; exact ⟨rfl, Nat.le_refl _⟩
  | iushr =>
    obtain ⟨x, z, r, rfl, h⟩ := am_2i_some hst
    cases h; exact ⟨rfl, Nat.le_refl _⟩
  | idiv =>
    obtain ⟨x, z, r, rfl, h⟩ := am_2i_some hst
    split at h
    · cases h
    · cases h; exact ⟨rfl, Nat.le_refl _⟩
  | irem =>
    obtain ⟨x, z, r, rfl, h⟩ := am_2i_some hst
    split at h
    · cases h
    · cases h; exact ⟨rfl, Nat.le_refl _⟩
  | i2b =>
    obtain ⟨x, r, rfl, h⟩ := am_1i_some hst
    cases h; exact ⟨rfl, Nat.le_refl _⟩
  | i2s =>
    obtain ⟨x, r, rfl, h⟩ := am_1i_some hst
    cases h; exact ⟨rfl, Nat.le_refl _⟩
  | i2l =>
    obtain ⟨x, r, rfl, h⟩ := am_1i_some hst
    cases h; exact ⟨rfl, Nat.le_refl _⟩
  | ladd =>
    obtain ⟨x, z, r, rfl, h⟩ := am_2l_some hst
    cases h; exact ⟨rfl, Nat.le_refl _⟩
  | lcmp =>
    obtain ⟨x, z, r, rfl, h⟩ := am_2l_some hst
    cases h; exact ⟨rfl, Nat.le_refl _⟩
  | goto off =>
    simp only [am_stp] at hst
    obtain ⟨t, ht, h⟩ := am_tg_some hst
    cases h; exact ⟨rfl, Nat.le_refl _⟩
  | if_icmp cd off =>
    obtain ⟨x, z, r, rfl, h⟩ := am_2i_some hst
    obtain ⟨t, ht, h⟩ := am_tg_some h
    split at h
    · cases h; exact ⟨rfl, Nat.le_refl _⟩
    · cases h; exact ⟨rfl, Nat.le_refl _⟩
  | ifCond cd off =>
    obtain ⟨x, r, rfl, h⟩ := am_1i_some hst
    obtain ⟨t, ht, h⟩ := am_tg_some h
    split at h
    · cases h; exact ⟨rfl, Nat.le_refl _⟩
    · cases h; exact ⟨rfl, Nat.le_refl _⟩
  | tableswitch d lo hi offs =>
    obtain ⟨x, r, rfl, h⟩ := am_1i_some hst
    split at h
    · obtain ⟨t, ht, h⟩ := am_tg_some h
      cases h; exact ⟨rfl, Nat.le_refl _⟩
    · split at h
      · obtain ⟨t, ht, h⟩ := am_tg_some h
        cases h; exact ⟨rfl, Nat.le_refl _⟩
      · cases h
  | lookupswitch d ps =>
    obtain ⟨x, r, rfl, h⟩ := am_1i_some hst
    obtain ⟨hc, h⟩ := am_ite_some h
    obtain ⟨t, ht, h⟩ := am_tg_some h
    cases h; exact ⟨rfl, Nat.le_refl _⟩
  | getfield idx =>
    obtain ⟨x, r, rfl, h⟩ := am_1r_some hst
    split at h
    · obtain ⟨hc, h⟩ := am_ite_some h
      cases h; exact ⟨rfl, Nat.le_refl _⟩
    · cases h
  | putfield idx =>
    simp only [am_stp] at hst
    split at hst
    · split at hst
      · obtain ⟨hc, h⟩ := am_ite_some hst
        cases h; exact ⟨rfl, Nat.le_refl _⟩
      · cases hst
    · cases hst
  | iaload =>
    simp only [am_stp] at hst
    split at hst
    · obtain ⟨hc, h⟩ := am_ite_some hst
      split at h
      · cases h; exact ⟨rfl, Nat.le_refl _⟩
      · cases h
    · cases hst
  | aaload =>
    simp only [am_stp] at hst
    split at hst
    · obtain ⟨hc, h⟩ := am_ite_some hst
      split at h
      · cases h; exact ⟨rfl, Nat.le_refl _⟩
      · cases h
    · cases hst
  | iastore =>
    simp only [am_stp] at hst
    split at hst
    · obtain ⟨hc, h⟩ := am_ite_some hst
      cases h; exact ⟨rfl, Nat.le_refl _⟩
    · cases hst
  | aastore =>
    simp only [am_stp] at hst
    split at hst
    · obtain ⟨hc, h⟩ := am_ite_some hst
      cases h; exact ⟨rfl, Nat.le_refl _⟩
    · cases hst
  | arraylength =>
    obtain ⟨x, r, rfl, h⟩ := am_1r_some hst
    obtain ⟨hc, h⟩ := am_ite_some h
    cases h; exact ⟨rfl, Nat.le_refl _⟩
  | new idx =>
    simp only [am_stp] at hst
    split at hst
    · obtain ⟨hc, h⟩ := am_ite_some hst
      cases h; exact ⟨rfl, Nat.le_succ _⟩
    · cases hst
  | newarray ty =>
    cases ty with
    | int =>
      obtain ⟨x, r, rfl, h⟩ := am_1i_some hst
      obtain ⟨hc, h⟩ := am_ite_some h
      cases h; exact ⟨rfl, Nat.le_succ _⟩
    | _ => cases hst
  | anewarray idx =>
    obtain ⟨x, r, rfl, h⟩ := am_1i_some hst
    split at h
    · obtain ⟨hc, h⟩ := am_ite_some h
      cases h; exact ⟨rfl, Nat.le_succ _⟩
    · cases h
  | invokespecial idx =>
    simp only [am_stp] at hst
    split at hst
    · obtain ⟨x, r, rfl, h⟩ := am_1r_some hst
      obtain ⟨hc, h⟩ := am_ite_some h
      cases h; exact ⟨rfl, Nat.le_refl _⟩
    · cases hst
  | invokevirtual idx =>
    simp only [am_stp] at hst
    split at hst
    · obtain ⟨x, r, rfl, h⟩ := am_1r_some hst
      obtain ⟨hc, h⟩ := am_ite_some h
      cases h; exact ⟨rfl, Nat.le_refl _⟩
    · split at hst
      · obtain ⟨hc, h⟩ := am_ite_some hst
        cases h; exact ⟨rfl, Nat.le_refl _⟩
      · cases hst
    · cases hst
  | invokestatic idx =>
    simp only [am_stp] at hst
    split at hst
    · split at hst
      · obtain ⟨hc, h⟩ := am_ite_some hst
        cases h; exact ⟨rfl, Nat.le_refl _⟩
      · cases hst
    · cases hst
  | _ => cases hst
/-- what a run's step is -/
theorem am_run_step {n : Nat} {E : am_E} {y : am_MI} {pc : Nat} {al st : List Value} {hp : am_H} {z : Option Value × am_H} (h : am_run (n + 1) E y pc al st hp = some z) : ∃ i len, decode y.2.2.1 pc = .ok (i, len) ∧ am_ok i len = true ∧
    ((am_fin y.2.2.2.2 i st = some z.1 ∧ hp = z.2) ∨ (∃ y' as rest r hp', am_inv y.1 i st hp = some (y', as, rest) ∧ E y' as hp = some (r, hp') ∧ am_run n E y (pc + 3) al (r.toList ++ rest) hp' = some z) ∨ ∃ pc' al' st' hp', am_stp y.1 (y.2.1.name == "<init>") i pc al st hp = some (pc', al', st', hp') ∧ am_run n E y pc' al' st' hp' = some z) := by
  rw [am_run] at h
  split at h
  · cases h
  · rename_i i len hd
    split at h
    · cases h
    · rename_i hok
      have hok : am_ok i len = true := by simpa using hok
      refine ⟨i, len, hd, hok, ?_⟩
      split at h
      · rename_i r hf
        cases h
        exact Or.inl ⟨hf, rfl⟩
      · split at h
        · rename_i y' as rest hi
          split at h
          · rename_i r hp' he
            exact Or.inr (Or.inl ⟨y', as, rest, r, hp', hi, he, h⟩)
          · cases h
        · split at h
          · rename_i pc' al' st' hp' hs
            exact Or.inr (Or.inr ⟨pc', al', st', hp', hs, h⟩)
          · cases h
theorem am_run_le {E : am_E} {y : am_MI} (hE : ∀ y' as hp r hp', E y' as hp = some (r, hp') → hp.1 ≤ hp'.1) : ∀ (n pc : Nat) (al st : List Value) (hp : am_H) (z : Option Value × am_H), am_run n E y pc al st hp = some z → hp.1 ≤ z.2.1 := by
  intro n
  induction n with
  | zero => intro pc al st hp z h; cases h
  | succ n ih =>
    intro pc al st hp z h
    obtain ⟨i, len, hd, hok, ⟨hf, e⟩ | ⟨y', as, rest, r, hp', hi, he, h⟩ | ⟨pc', al', st', hp', hs, h⟩⟩ := am_run_step h
    · rw [e]; exact Nat.le_refl _
    · exact Nat.le_trans (hE _ _ _ _ _ he) (ih _ _ _ _ _ h)
    · exact Nat.le_trans (am_stp_al hs).2 (ih _ _ _ _ _ h)
theorem am_ex_le {f : Nat} : ∀ (d : Nat) (y : am_MI) (as : List Value) (hp : am_H) (r : Option Value) (hp' : am_H), am_ex f d y as hp = some (r, hp') → hp.1 ≤ hp'.1 := by
  intro d
  induction d with
  | zero => intro y as hp r hp' h; cases h
  | succ d ih =>
    intro y as hp r hp' h
    rw [am_ex] at h
    simp only at h
    split at h
    · exact am_run_le ih f 0 _ _ hp _ h
    · cases h
/-- rooms, words, starts and ends -/
def am_rm (d : Nat) (hp hp' : am_H) : Room := { frames := d + 8, cells := hp'.1 - hp.1, slots := am_sl hp'.1 - am_sl hp.1, locals := 100 * d + 400 }
def am_wm (y : am_MI) : List Cond := .code y.2.1 y.2.2.1 y.2.2.2.1 y.2.2.2.2 :: am_tG
def am_Pc (D : va_G) (b0 : Nat) (adK adV : Nat → Nat) (cA : Nat → ClassId) (as : List Value) (hp : am_H) : Array Value → State → Prop := fun v U => v = (as.map (am_tr b0 adK)).toArray ∧ U.heap.size = b0 + hp.1 ∧ va_P D am_cl (am_ws b0 adK cA hp) U.heap ∧ am_KT D adK cA U ∧ am_Z adK adV b0 U U.heap
def am_Qc (D : va_G) (b0 : Nat) (adK : Nat → Nat) (cA : Nat → ClassId) (r : Option Value) (hp' : am_H) : Array Value → State → Outcome → State → Prop := fun _ st oc t => oc = .returned (r.map (am_tr b0 adK)) ∧ va_P D am_cl (am_ws b0 adK cA hp') t.heap ∧ va_F (fun q : Nat => b0 ≤ q) st t
def am_Mt (l : Launch) (D : va_G) (b0 : Nat) (adK adV : Nat → Nat) (cA : Nat → ClassId) (d : Nat) (y : am_MI) (as : List Value) (hp : am_H) (r : Option Value) (hp' : am_H) : Prop :=
  Met l y.2.1 (am_wm y) (am_rm d hp hp') (am_Pc D b0 adK adV cA as hp) (am_Qc D b0 adK cA r hp') (hp'.1 - hp.1) (am_sl hp'.1 - am_sl hp.1) (fun q : Nat => b0 ≤ q)
theorem am_Pc_blind {D : va_G} {b0 : Nat} {adK adV : Nat → Nat} {cA : Nat → ClassId} {as : List Value} {hp : am_H} : FrameBlind (am_Pc D b0 adK adV cA as hp) := by
  intro a U g mk ⟨q0, q1, q2, q3, q4⟩
  exact ⟨q0, q1, q2, am_KT.same (s := U) (U := U.calling g mk a) rfl q3, am_Z.moved (u := U) (U := U.calling g mk a) (Vm.Alike.refl _) q4⟩
theorem am_Hsz {D : va_G} {b0 n0 : Nat} {adK : Nat → Nat} {cA : Nat → ClassId} {hp : am_H} {H H0 : Heap} {locs : List Loc} (hP : va_P D am_cl (am_ws b0 adK cA hp) H) (hS : va_S (fun q : Nat => b0 ≤ q) H0 H locs) (h0 : H0.size = b0 + n0) (hn : n0 ≤ hp.1) (hz : H.size ≤ b0 + hp.1) : H.size = b0 + hp.1 := by
  rcases Nat.eq_zero_or_pos hp.1 with h | h
  · have := hS.1
    omega
  · have hg := am_ws_get (b0 := b0) (adK := adK) (cA := cA) (hp := hp) (i := hp.1 - 1) (by omega)
    have := (hP _ _ hg).lt
    simp only at this
    omega
theorem am_good {y : am_MI} (hc : Cond.code y.2.1 y.2.2.1 y.2.2.2.1 y.2.2.2.2 ∈ am_tG) : GoodIn am_tG (am_wm y) := by
  intro w hw
  rcases List.mem_cons.mp hw with rfl | hw
  · exact ⟨hc, good_of_word (am_tG_good _ hc)⟩
  · exact ⟨hw, good_of_word (am_tG_good _ hw)⟩
/-- a constructor hands nothing back -/
def am_R_t (e : am_ME) : Bool := !(decide (e.2.2.2.2.1 = 2) || decide (e.2.2.2.2.1 = 5)) || decide (e.2.2.1.2.2.2.2 = none)
theorem am_R_c0 : am_M_0.all am_R_t = true := by decide +kernel
theorem am_R_c1 : am_M_1.all am_R_t = true := by decide +kernel
theorem am_R_c2 : am_M_2.all am_R_t = true := by decide +kernel
theorem am_R_c3 : am_M_3.all am_R_t = true := by decide +kernel
theorem am_R_c4 : am_M_4.all am_R_t = true := by decide +kernel
theorem am_R_c5 : am_M_5.all am_R_t = true := by decide +kernel
theorem am_R_c6 : am_M_6.all am_R_t = true := by decide +kernel
theorem am_R_c7 : am_M_7.all am_R_t = true := by decide +kernel
theorem am_R_c8 : am_M_8.all am_R_t = true := by decide +kernel
theorem am_R_c9 : am_M_9.all am_R_t = true := by decide +kernel
theorem am_R_all (own : Nat) : (am_M own).all am_R_t = true := by
  match own with
  | 0 => exact am_R_c0
  | 1 => exact am_R_c1
  | 2 => exact am_R_c2
  | 3 => exact am_R_c3
  | 4 => exact am_R_c4
  | 5 => exact am_R_c5
  | 6 => exact am_R_c6
  | 7 => exact am_R_c7
  | 8 => exact am_R_c8
  | 9 => exact am_R_c9
  | k + 10 => rfl
theorem am_init_ret {own idx n md : Nat} {y : am_MI} (h : am_lkM own idx = some (y, n, md)) (hm : md = 2 ∨ md = 5) : y.2.2.2.2 = none := by
  unfold am_lkM at h
  rw [Option.map_eq_some_iff] at h
  obtain ⟨e, h1, h2⟩ := h
  have h4 := List.all_eq_true.mp (am_R_all own) e (List.mem_of_find?_eq_some h1)
  obtain ⟨e1, e2, e3, e4, e5, e6⟩ := e
  cases h2
  simp only [am_R_t, Bool.or_eq_true, Bool.not_eq_true', Bool.or_eq_false_iff, decide_eq_false_iff_not, decide_eq_true_eq] at h4
  rcases h4 with h4 | h4
  · rcases hm with hm | hm
    · exact absurd hm h4.1
    · exact absurd hm h4.2
  · exact h4
section AMR
variable {p : Program} {l : Launch} {e : Env} {R : Room} {s : State} {m : MethodId} {args : Array Value} {below : List Frame} {meth : Method} {c : Code} {Q : State → Prop}
variable {b0 n0 d : Nat} {adK adV : Nat → Nat} {cA : Nat → ClassId} {D : va_G} {y : am_MI}
theorem am_call {H : Heap} {locs : List Loc} {cells slots mc ms pc : Nat} {ls : Array Slot} {st0 rest : List Value} {Qa : State → Outcome → State → Prop} (hr : va_Run p l e R s m args below meth c H locs cells slots mc ms (F0 m pc ls st0) rest Qa (fun q : Nat => b0 ≤ q)) (hS : va_S (fun q : Nat => b0 ≤ q) s.heap H locs)
    (kk : ∀ (v : Option Value) (st₀ t : State) (L : List Loc), st₀.heap = H → Qa st₀ (.returned v) t → (va_F (fun q : Nat => b0 ≤ q) st₀ t → va_S (fun q : Nat => b0 ≤ q) s.heap t.heap (locs ++ L)) → W p l e R s m args below meth c t.heap (locs ++ L) (cells + mc) (slots + ms) Q (F0 m (pc + 3) ls (v.toList ++ rest))) : W p l e R s m args below meth c H locs cells slots Q (F0 m pc ls st0) := by
  intro T hT X
  obtain ⟨v, st₀, t, T', L, h0, X', hL, e1, e2, hq, st⟩ := hr T hT X
  have hF2 : va_F (fun q : Nat => b0 ≤ q) st₀ t → va_S (fun q : Nat => b0 ≤ q) s.heap t.heap (locs ++ L) := by
    intro hF
    obtain ⟨hz, hk⟩ := hF
    rw [h0] at hz hk
    refine ⟨Nat.le_trans hS.1 hz, fun q h1 h2 => (hk q (Nat.lt_of_lt_of_le h1 hS.1) h2).trans (hS.2.1 q h1 h2), fun q hq => ?_⟩
    rcases List.mem_append.mp hq with h | h
    · exact hS.2.2 q h
    · exact hL q h
  obtain ⟨t2, a1, b1⟩ := kk v st₀ t L h0 hq hF2 T' e1 X'
  exact ⟨t2, st t2 a1, b1⟩
theorem am_ofW {y : MethodName} {ws ws' : List Cond} {rm : Room} {Pc : Array Value → State → Prop} {Qc : Array Value → State → Outcome → State → Prop} {mc ms : Nat} {free : Addr → Prop} {cc : ByteArray} {maxL : Nat} {ret : Option FieldType}
    (hy : plainFor y = true) (hw : ws = Cond.code y cc maxL ret :: ws')
    (body : ∀ p e s m args below meth c s₁, BodyLoose p l y (headSpec ws rm) cc maxL ret e s m args below meth c s₁ → c.maxLocals = maxL → Pc args s →
      W p l e (headSpec ws rm).room s m args below meth c s.heap [] 0 0 (MQ below Qc args s mc ms free) (entryFrame m args maxL)) : Met l y ws rm Pc Qc mc ms free := by
  refine MetFree.of_bodySF (code := cc) (maxLocals := maxL) (ret := ret) hy ?_ ?_
  · intro args s m h hn
    obtain ⟨meth, c, h1, h2, h3, h4, h5, h6, -, -⟩ := Cond.code_spec hn (atoms_spec (ws := ws) h _ (by rw [hw]; exact List.mem_cons_self))
    exact ⟨meth, c, h1, h2, h3, h4, h5, h6⟩
  · intro p e s m args below meth c s₁ B hml hP _
    have hh0 : s₁.heap = s.heap := by rw [B.state]; rfl
    obtain ⟨t, a1, o, b1, b2, b3⟩ := body p e s m args below meth c s₁ B hml hP s₁ hh0 (Stand.of_body B)
    exact ⟨t, o, a1, b1, b2, ⟨b3.1, b3.2⟩⟩
set_option maxHeartbeats 2000000 in
/-- a call of a method of the tables, by its contract -/
theorem am_soundC (F : am_FX p s m args meth c y) (K : am_KT D adK cA s) (Z : am_Z adK adV b0 s s.heap) (hsz : s.heap.size = b0 + n0) (hRf : d + 9 ≤ R.frames) (hRl : 100 * d + 500 ≤ R.locals)
    {i : Instr} {len pc : Nat} {st as rest : List Value} {hp hp' : am_H} {y' : am_MI} {r : Option Value} {H : Heap} {locs : List Loc} {ls : Array Slot} (hn : n0 ≤ hp.1) (hle : hp.1 ≤ hp'.1)
    (hd : decode y.2.2.1 pc = .ok (i, len)) (hok : am_ok i len = true) (hi : am_inv y.1 i st hp = some (y', as, rest)) (hM : am_Mt l D b0 adK adV cA d y' as hp r hp')
    (hP : va_P D am_cl (am_ws b0 adK cA hp) H) (hS : va_S (fun q : Nat => b0 ≤ q) s.heap H locs) (hls : ls.size = y.2.2.2.1)
    (hR1 : hp'.1 - n0 ≤ R.cells) (hR2 : am_sl hp'.1 - am_sl n0 ≤ R.slots)
    (kk : ∀ (H' : Heap) (locs' : List Loc), va_P D am_cl (am_ws b0 adK cA hp') H' → va_S (fun q : Nat => b0 ≤ q) s.heap H' locs' → W p l e R s m args below meth c H' locs' (hp'.1 - n0) (am_sl hp'.1 - am_sl n0) Q (F0 m (pc + 3) ls ((r.toList ++ rest).map (am_tr b0 adK)))) :
    W p l e R s m args below meth c H locs (hp.1 - n0) (am_sl hp.1 - am_sl n0) Q (F0 m pc ls (st.map (am_tr b0 adK))) := by
  obtain ⟨hx, hb, hml, hown, hts, hname⟩ := F
  refine am_wsz (fun hz => ?_)
  have hHs : H.size = b0 + hp.1 := am_Hsz hP hS hsz hn (by omega)
  have hm1 := am_sl_mono hn
  have hm2 := am_sl_mono hle
  have hroom : y'.2.2.2.1 ≤ 20 → (am_rm d hp hp').frames + 1 ≤ R.frames ∧ 8 + (y'.2.2.2.1 + 11) + (am_rm d hp hp').locals ≤ R.locals := by
    intro h20
    have e1 : (am_rm d hp hp').frames = d + 8 := rfl
    have e2 : (am_rm d hp hp').locals = 100 * d + 400 := rfl
    rw [e1, e2]
    omega
  have hPc : ∀ U : State, U.heap = H → s.WarmedH U.vm → am_Pc D b0 adK adV cA as hp (as.map (am_tr b0 adK)).toArray U := fun U hU hW =>
    ⟨rfl, by rw [hU]; exact hHs, by rw [hU]; exact hP, am_KT.warm hW K, by rw [hU]; exact am_Z.moved hW.alike (am_Z.kept Z hS.2.1)⟩
  have fin : ∀ (v : Option Value) (st₀ t : State) (L : List Loc), st₀.heap = H → am_Qc D b0 adK cA r hp' (as.map (am_tr b0 adK)).toArray st₀ (.returned v) t → (va_F (fun q : Nat => b0 ≤ q) st₀ t → va_S (fun q : Nat => b0 ≤ q) s.heap t.heap (locs ++ L)) → W p l e R s m args below meth c t.heap (locs ++ L) (hp.1 - n0 + (hp'.1 - hp.1)) (am_sl hp.1 - am_sl n0 + (am_sl hp'.1 - am_sl hp.1)) Q (F0 m (pc + 3) ls (v.toList ++ rest.map (am_tr b0 adK))) := by
    intro v st₀ t L h0 ⟨q1, q2, q3⟩ hF
    refine W.cs (cells' := hp'.1 - n0) (slots' := am_sl hp'.1 - am_sl n0) (by omega) (by omega) ?_
    have k2 := kk t.heap _ q2 (hF q3)
    cases q1
    rw [List.map_append] at k2
    cases r <;> exact k2
  cases i with
  | invokestatic idx =>
    obtain rfl : len = 3 := by simpa [am_ok] using hok
    simp only [am_inv] at hi
    split at hi
    · rename_i z n md hlk
      split at hi
      · rename_i hc
        cases hi
        obtain ⟨hmd, hnl, hrs⟩ := hc
        obtain ⟨ws, t1, t2⟩ := am_M_ok hlk
        obtain ⟨w2, w3⟩ := am_M_code t1
        simp only [am_Y_t, Bool.and_eq_true, decide_eq_true_eq] at t2
        obtain ⟨c1, c2, c3, c4, c5, -⟩ := t2
        have hstk : st.map (am_tr b0 adK) = (((st.take n).reverse).map (am_tr b0 adK)).reverse ++ (st.drop n).map (am_tr b0 adK) := by
          rw [← List.map_reverse, List.reverse_reverse, ← List.map_append, List.take_append_drop]
        have hlen : (((st.take n).reverse).map (am_tr b0 adK)).length = n := by simp; omega
        rcases hmd with rfl | rfl
        · obtain ⟨w0, w1⟩ := am_M_1' t1
          refine am_call (va_runS (As := ((st.take n).reverse).map (am_tr b0 adK)) (rest := (st.drop n).map (am_tr b0 adK)) ⟨hx, hb, hml, hown, hts⟩ hM ⟨callB_of n hts (am_good w3) rfl rfl rfl (hts _ w2) (hts _ w0) ⟨c2, c3, c4⟩ (hroom c5), hts _ w1⟩ ⟨am_Pc_blind, hPc⟩ rfl hlen hls hstk (by rw [am_map_cat]; show 2 * 0 + _ ≤ 8; omega) hd ⟨by omega, by omega⟩) hS fin
        · obtain ⟨w0, w1⟩ := am_M_4' t1
          refine am_call (va_runSN (As := ((st.take n).reverse).map (am_tr b0 adK)) (rest := (st.drop n).map (am_tr b0 adK)) ⟨hx, hb, hml, hown, hts⟩ hM ⟨va_cnB n hts (am_good w3) rfl rfl rfl (K.2.1 _ _ _ _ w0) (hts _ w2) ⟨c2, c3, c4⟩ (hroom c5), hts _ w1, trivial⟩ ⟨am_Pc_blind, hPc⟩ rfl hlen hls hstk (by rw [am_map_cat]; show 2 * 0 + _ ≤ 8; omega) hd ⟨by omega, by omega⟩) hS fin
      · cases hi
    · cases hi
  | invokevirtual idx =>
    obtain rfl : len = 3 := by simpa [am_ok] using hok
    simp only [am_inv] at hi
    split at hi
    · rename_i z n md hlk
      split at hi
      · rename_i b rest' hdr
        split at hi
        · rename_i hc
          cases hi
          obtain ⟨rfl, h9, hbl, hkb, hrs⟩ := hc
          obtain ⟨ws, t1, t2⟩ := am_M_ok hlk
          obtain ⟨w2, w3⟩ := am_M_code t1
          simp only [am_Y_t, Bool.and_eq_true, decide_eq_true_eq] at t2
          obtain ⟨c1, c2, c3, c4, c5, -⟩ := t2
          have hb' : am_tr b0 adK (.ref b) = .ref (b0 + b) := congrArg Value.ref (am_adr_lt (by omega))
          have hstk : st.map (am_tr b0 adK) = (((st.take n).reverse).map (am_tr b0 adK)).reverse ++ .ref (b0 + b) :: rest.map (am_tr b0 adK) := by
            rw [← hb', ← List.map_cons, ← hdr, ← List.map_reverse, List.reverse_reverse, ← List.map_append, List.take_append_drop]
          have hl2 : n < st.length := by
            have := congrArg List.length hdr
            simp at this
            omega
          have hlen : (((st.take n).reverse).map (am_tr b0 adK)).length = n := by simp; omega
          have hg := am_ws_get (b0 := b0) (adK := adK) (cA := cA) hbl
          rw [am_ce_obj hkb] at hg
          rw [List.map_cons, hb'] at hPc
          rw [List.map_cons, hb'] at fin
          obtain ⟨w0, w1, w4⟩ := am_M_0' t1
          have hrc := va_recv K.1 hP (am_cl_get h9) hg
          exact am_call (va_runV (C := y'.2.1.cls) (b := b0 + b) (As := ((st.take n).reverse).map (am_tr b0 adK)) (rest := rest.map (am_tr b0 adK)) ⟨hx, hb, hml, hown, hts⟩ hM ⟨callB_of n hts (am_good w3) rfl rfl rfl (hts _ w2) (hts _ w0) ⟨c2, c3, c4⟩ (hroom c5), hts _ w1, hts _ w4⟩ ⟨am_Pc_blind, by rw [c1]; exact hrc, hPc⟩ rfl hlen hls hstk (by rw [am_map_cat]; show 2 * 0 + _ ≤ 8; omega) hd ⟨by omega, by omega⟩) hS fin
        · cases hi
      · cases hi
    · cases hi
  | invokespecial idx =>
    obtain rfl : len = 3 := by simpa [am_ok] using hok
    simp only [am_inv] at hi
    split at hi
    · rename_i z n md hlk
      split at hi
      · rename_i b rest' hdr
        split at hi
        · rename_i hc
          cases hi
          obtain ⟨hmd, h9, hbl, hkb, hrs⟩ := hc
          obtain ⟨ws, t1, t2⟩ := am_M_ok hlk
          obtain ⟨w2, w3⟩ := am_M_code t1
          simp only [am_Y_t, Bool.and_eq_true, decide_eq_true_eq] at t2
          obtain ⟨c1, c2, c3, c4, c5, -⟩ := t2
          have hb' : am_tr b0 adK (.ref b) = .ref (b0 + b) := congrArg Value.ref (am_adr_lt (by omega))
          have hstk : st.map (am_tr b0 adK) = (((st.take n).reverse).map (am_tr b0 adK)).reverse ++ .ref (b0 + b) :: rest.map (am_tr b0 adK) := by
            rw [← hb', ← List.map_cons, ← hdr, ← List.map_reverse, List.reverse_reverse, ← List.map_append, List.take_append_drop]
          have hl2 : n < st.length := by
            have := congrArg List.length hdr
            simp at this
            omega
          have hlen : (((st.take n).reverse).map (am_tr b0 adK)).length = n := by simp; omega
          rw [List.map_cons, hb'] at hPc
          rw [List.map_cons, hb'] at fin
          have hrt : y'.2.2.2.2 = none := am_init_ret hlk hmd
          rw [am_Mt, am_wm, hrt] at hM
          have w3' := w3
          rw [hrt] at w3'
          have hgd : GoodIn am_tG (Cond.code y'.2.1 y'.2.2.1 y'.2.2.2.1 none :: am_tG) := by
            have := am_good w3
            rw [am_wm, hrt] at this
            exact this
          rcases hmd with rfl | rfl
          · obtain ⟨w0, w1, w4⟩ := am_M_2' t1
            exact am_call (va_runI (b := b0 + b) (As := ((st.take n).reverse).map (am_tr b0 adK)) (rest := rest.map (am_tr b0 adK)) ⟨hx, hb, hml, hown, hts⟩ hM ⟨callB_of n hts hgd rfl rfl rfl (hts _ w2) (hts _ w0) ⟨c2, c3, c4⟩ (hroom c5), w4, hts _ w1⟩ ⟨am_Pc_blind, hPc⟩ rfl hlen hls hstk (by rw [am_map_cat]; show 2 * 0 + _ ≤ 8; omega) hd ⟨by omega, by omega⟩) hS fin
          · obtain ⟨w0, w1, w4⟩ := am_M_5' t1
            exact am_call (va_runIN (b := b0 + b) (As := ((st.take n).reverse).map (am_tr b0 adK)) (rest := rest.map (am_tr b0 adK)) ⟨hx, hb, hml, hown, hts⟩ hM ⟨va_cnB n hts hgd rfl rfl rfl (K.2.1 _ _ _ _ w0) (hts _ w2) ⟨c2, c3, c4⟩ (hroom c5), w4, hts _ w1⟩ ⟨am_Pc_blind, hPc⟩ rfl hlen hls hstk (by rw [am_map_cat]; show 2 * 0 + _ ≤ 8; omega) hd ⟨by omega, by omega⟩) hS fin
        · cases hi
      · cases hi
    · cases hi
  | _ => cases hi
end AMR
end
section
/-! a method's contract out of the small machine -/
theorem am_inv_ok {own : Nat} {i : Instr} {st as rest : List Value} {hp : am_H} {y' : am_MI} (h : am_inv own i st hp = some (y', as, rest)) : (∃ n, am_Y_t y' n = true) ∧ Cond.code y'.2.1 y'.2.2.1 y'.2.2.2.1 y'.2.2.2.2 ∈ am_tG := by
  have key : ∀ idx n md, am_lkM own idx = some (y', n, md) → (∃ n, am_Y_t y' n = true) ∧ Cond.code y'.2.1 y'.2.2.1 y'.2.2.2.1 y'.2.2.2.2 ∈ am_tG := by
    intro idx n md hl
    obtain ⟨ws, t1, t2⟩ := am_M_ok hl
    exact ⟨⟨n, t2⟩, (am_M_code t1).2⟩
  cases i with
  | invokestatic idx =>
    simp only [am_inv] at h
    split at h
    · rename_i hl
      split at h
      · cases h
        exact key _ _ _ hl
      · cases h
    · cases h
  | invokevirtual idx =>
    simp only [am_inv] at h
    split at h
    · rename_i hl
      split at h
      · split at h
        · cases h
          exact key _ _ _ hl
        · cases h
      · cases h
    · cases h
  | invokespecial idx =>
    simp only [am_inv] at h
    split at h
    · rename_i hl
      split at h
      · split at h
        · cases h
          exact key _ _ _ hl
        · cases h
      · cases h
    · cases h
  | _ => cases h
/-- the locals at a method's entry -/
theorem am_entry_args : ∀ (vs : List Value) (i : Nat), (∀ v ∈ vs, v.category = 1) → ∀ (k : Nat) (v : Value), vs[k]? = some v → (i + k, v) ∈ lv_args i vs := by
  intro vs
  induction vs with
  | nil => intro i h k v hv; simp at hv
  | cons w vs ih =>
    intro i h k v hv
    have hw := h w List.mem_cons_self
    cases k with
    | zero =>
      simp at hv
      subst hv
      exact List.mem_cons_self
    | succ k =>
      simp at hv
      have := ih (i + 1) (fun v hv => h v (List.mem_cons_of_mem _ hv)) k v hv
      rw [lv_args, if_neg (by omega)]
      refine List.mem_cons_of_mem _ ?_
      rw [show i + (k + 1) = i + 1 + k by omega]
      exact this
theorem am_sl_len : ∀ (vs : List Value), (∀ v ∈ vs, v.category = 1) → (lg_sl vs).length = vs.length := by
  intro vs
  induction vs with
  | nil => intro _; rfl
  | cons w vs ih =>
    intro h
    have hw := h w List.mem_cons_self
    have h2 := ih (fun v hv => h v (List.mem_cons_of_mem _ hv))
    unfold lg_sl at h2 ⊢
    rw [List.flatMap_cons, if_neg (by omega)]
    simp [h2]
theorem am_entry {b0 : Nat} {adK : Nat → Nat} {as : List Value} {n : Nat} (h1 : as.length ≤ n) (h2 : ∀ v ∈ as, v.category = 1) : am_LR b0 adK ((lg_sl (as.map (am_tr b0 adK)) ++ List.replicate (n - (lg_sl (as.map (am_tr b0 adK))).length) Slot.unset).toArray) (as ++ List.replicate (n - as.length) .null) := by
  have hc : ∀ v ∈ as.map (am_tr b0 adK), v.category = 1 := by
    intro v hv
    obtain ⟨w, hw, rfl⟩ := List.mem_map.mp hv
    rw [am_tr_cat]
    exact h2 w hw
  have hl : (lg_sl (as.map (am_tr b0 adK))).length ≤ n := by rw [am_sl_len _ hc]; simpa using h1
  obtain ⟨q1, q2, q3⟩ := lv_entry (as.map (am_tr b0 adK)) (n := n) hl
  refine ⟨by rw [q1]; simp; omega, q2, fun k v hk hv => ?_⟩
  have hk2 : as[k]? = some v := by
    rcases Nat.lt_or_ge k as.length with h | h
    · rw [List.getElem?_append_left h] at hk
      exact hk
    · rw [List.getElem?_append_right h] at hk
      exact absurd (List.eq_of_mem_replicate (List.mem_of_getElem? hk)) hv
  refine ⟨h2 v (List.mem_of_getElem? hk2), ?_⟩
  have := am_entry_args (as.map (am_tr b0 adK)) 0 hc k (am_tr b0 adK v) (by rw [List.getElem?_map, hk2]; rfl)
  rw [Nat.zero_add] at this
  exact q3 (k, am_tr b0 adK v) this
section AMM
variable {p : Program} {l : Launch} {e : Env} {R : Room} {s : State} {m : MethodId} {args : Array Value} {below : List Frame} {meth : Method} {c : Code} {Q : State → Prop}
variable {b0 n0 d : Nat} {adK adV : Nat → Nat} {cA : Nat → ClassId} {D : va_G} {y : am_MI}
/-- the texts' own methods, in every frame -/
def am_TX (l : Launch) (D : va_G) (b0 : Nat) (adK adV : Nat → Nat) (cA : Nat → ClassId) : Prop :=
  ∀ (p : Program) (e : Env) (R : Room) (s : State) (m : MethodId) (args : Array Value) (below : List Frame) (meth : Method) (c : Code) (Q : State → Prop) (y : am_MI), am_FX p s m args meth c y → am_KT D adK cA s → am_Z adK adV b0 s s.heap → 8 ≤ R.frames → 300 ≤ R.locals →
    am_lenW p l e R s m args below meth c Q b0 adK y ∧ am_chrW p l e R s m args below meth c Q b0 adK y
theorem am_soundR (TX : am_TX l D b0 adK adV cA) {E : am_E} (hE : ∀ y' as hp r hp', E y' as hp = some (r, hp') → (∃ n, am_Y_t y' n = true) → Cond.code y'.2.1 y'.2.2.1 y'.2.2.2.1 y'.2.2.2.2 ∈ am_tG → am_Mt l D b0 adK adV cA d y' as hp r hp') (hEle : ∀ y' as hp r hp', E y' as hp = some (r, hp') → hp.1 ≤ hp'.1)
    (F : am_FX p s m args meth c y) (K : am_KT D adK cA s) (Z : am_Z adK adV b0 s s.heap) (hsz : s.heap.size = b0 + n0) (hRf : d + 9 ≤ R.frames) (hRl : 100 * d + 500 ≤ R.locals) :
    ∀ (n pc : Nat) (al st : List Value) (hp : am_H) (z : Option Value × am_H), am_run n E y pc al st hp = some z → n0 ≤ hp.1 → z.2.1 - n0 ≤ R.cells → am_sl z.2.1 - am_sl n0 ≤ R.slots → al.length = y.2.2.2.1 →
      (∀ (i : Instr) (len pc' : Nat) (st' : List Value) (H' : Heap) (locs' : List Loc) (ls' : Array Slot), decode y.2.2.1 pc' = .ok (i, len) → am_ok i len = true → am_fin y.2.2.2.2 i st' = some z.1 → va_P D am_cl (am_ws b0 adK cA z.2) H' → va_S (fun q : Nat => b0 ≤ q) s.heap H' locs' → W p l e R s m args below meth c H' locs' (z.2.1 - n0) (am_sl z.2.1 - am_sl n0) Q (F0 m pc' ls' (st'.map (am_tr b0 adK)))) →
      ∀ (H : Heap) (locs : List Loc) (ls : Array Slot), va_P D am_cl (am_ws b0 adK cA hp) H → va_S (fun q : Nat => b0 ≤ q) s.heap H locs → am_LR b0 adK ls al → W p l e R s m args below meth c H locs (hp.1 - n0) (am_sl hp.1 - am_sl n0) Q (F0 m pc ls (st.map (am_tr b0 adK))) := by
  obtain ⟨tl, tc⟩ := TX p e R s m args below meth c Q y F K Z (by omega) (by omega)
  intro n
  induction n with
  | zero => intro pc al st hp z h; cases h
  | succ n ih =>
    intro pc al st hp z h hn h1 h2 hal fin H locs ls hP hS hL
    obtain ⟨i, len, hd, hok, ⟨hf, rfl⟩ | ⟨y', as, rest, r, hp', hi, he, h⟩ | ⟨pc', al', st', hp', hs, h⟩⟩ := am_run_step h
    · exact fin i len pc st H locs ls hd hok hf hP hS
    · have hle := hEle _ _ _ _ _ he
      have hle2 := am_run_le hEle _ _ _ _ _ _ h
      have hm := am_sl_mono hle2
      obtain ⟨hy, hcd⟩ := am_inv_ok hi
      refine am_soundC F K Z hsz hRf hRl hn hle hd hok hi (hE _ _ _ _ _ he hy hcd) hP hS (hL.1.trans hal) (by omega) (by omega) (fun H' locs' q1 q2 => ?_)
      exact ih _ _ _ _ _ h (by omega) h1 h2 hal fin H' locs' ls q1 q2 hL
    · obtain ⟨hal', hle⟩ := am_stp_al hs
      have hle2 := am_run_le hEle _ _ _ _ _ _ h
      have hm := am_sl_mono hle2
      refine am_sound1 F K Z tl tc hsz hn hd hok hs hP hS hL hal (by omega) (by omega) (by omega) (by omega) (fun H' locs' ls' q1 q2 q3 => ?_)
      exact ih _ _ _ _ _ h (by omega) h1 h2 (hal'.trans hal) fin H' locs' ls' q1 q2 q3
theorem am_met (TX : am_TX l D b0 adK adV cA) (f : Nat) : ∀ (d : Nat) (y : am_MI) (as : List Value) (hp : am_H) (r : Option Value) (hp' : am_H), am_ex f d y as hp = some (r, hp') → (∃ n, am_Y_t y n = true) → Cond.code y.2.1 y.2.2.1 y.2.2.2.1 y.2.2.2.2 ∈ am_tG → am_Mt l D b0 adK adV cA d y as hp r hp' := by
  intro d
  induction d with
  | zero => intro y as hp r hp' h; cases h
  | succ d ih =>
    intro y as hp r hp' h hY hcode
    rw [am_ex] at h
    simp only at h
    split at h
    · rename_i hc
      obtain ⟨n, hY⟩ := hY
      simp only [am_Y_t, Bool.and_eq_true, decide_eq_true_eq] at hY
      obtain ⟨c1, -, -, -, -, hpl⟩ := hY
      have hle := am_ex_le (f := f) d
      have hle2 := am_run_le hle _ _ _ _ _ _ h
      refine am_ofW (cc := y.2.2.1) (maxL := y.2.2.2.1) (ret := y.2.2.2.2) (am_pl_ok hpl) rfl ?_
      intro p e s m args below meth c s₁ B hml hv
      obtain ⟨rfl, hsz, hP, hK, hZ⟩ := hv
      have hts := atoms_spec (ws := am_wm y) B.pre
      have hown : s.vm.findClass (am_cn y.1) = some m.cls := by rw [← c1]; exact findClass_of_methodNamed B.named
      have hlocks := B.notSynchronized
      have hr := B.returns
      have hb := B.bytes
      have hx := B.exec
      have hname : meth.name = y.2.1.name := (name_of_methodNamed B.named B.method).1
      have hF : am_FX p s m (as.map (am_tr b0 adK)).toArray meth c y := ⟨hx, hb, hml, hown, fun w hw => hts w (List.mem_cons_of_mem _ hw), hname⟩
      rw [lg_entry_eq]
      have key := am_soundR (p := p) (e := e) (R := (headSpec (am_wm y) (am_rm (d + 1) hp hp')).room) (s := s) (m := m) (args := (as.map (am_tr b0 adK)).toArray) (below := below) (meth := meth) (c := c) (n0 := hp.1) (Q := MQ below (am_Qc D b0 adK cA r hp') (as.map (am_tr b0 adK)).toArray s (hp'.1 - hp.1) (am_sl hp'.1 - am_sl hp.1) (fun q : Nat => b0 ≤ q)) TX ih hle hF hK hZ hsz
        (by show d + 9 ≤ d + 1 + 8; omega) (by show 100 * d + 500 ≤ 100 * (d + 1) + 400; omega) f 0 _ _ hp (r, hp') h (Nat.le_refl _) (Nat.le_refl _) (Nat.le_refl _) (by simp; omega) ?_ s.heap [] _ hP va_S.rf (am_entry hc.1 hc.2)
      · rw [Nat.sub_self, Nat.sub_self] at key
        exact key
      · intro i len pc' st' H' locs' ls' hd hok hf q1 q2
        have hq : ∀ t : State, t.heap = H' → s.WarmedH t.vm → am_Qc D b0 adK cA r hp' (as.map (am_tr b0 adK)).toArray s (.returned (r.map (am_tr b0 adK))) t := fun t ht _ => ⟨rfl, by rw [ht]; exact q1, q2.F ht⟩
        cases i with
        | ireturn =>
          obtain rfl : len = 1 := by simpa [am_ok] using hok
          simp only [am_fin] at hf
          split at hf
          · rename_i x
            split at hf
            · rename_i hrt
              cases hf
              exact W.iret hx hb (hr.trans hrt) hq q2.2.2 hd
            · rename_i hrt
              split at hf
              · rename_i hx2
                cases hf
                exact W.zret (ty := .boolean) hx hb (hr.trans hrt) (by rcases hx2 with rfl | rfl <;> decide) hq q2.2.2 hd
              · cases hf
            · cases hf
          · cases hf
        | areturn =>
          obtain rfl : len = 1 := by simpa [am_ok] using hok
          simp only [am_fin] at hf
          split at hf
          · rename_i a
            split at hf
            · rename_i C hrt
              cases hf
              exact W.aret hx hb (hr.trans hrt) (Or.inl ⟨_, rfl⟩) (Or.inr ⟨_, rfl⟩) hq q2.2.2 hd
            · cases hf
          · cases hf
        | return_ =>
          obtain rfl : len = 1 := by simpa [am_ok] using hok
          simp only [am_fin] at hf
          split at hf
          · rename_i hrt
            cases hf
            exact W.vret hx hb (hr.trans hrt) hq q2.2.2 hd
          · cases hf
        | _ => cases hf
    · cases h
end AMM
end
