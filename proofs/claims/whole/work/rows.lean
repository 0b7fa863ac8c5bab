section
-- ===== PART A: goes FIRST, ahead of the names: the tables' words, and 'selects' of the private methods out of them =====
/-- a private method of a class that the tables say can be made, by its rows of tables_1 -/
def lw_okq (q : MethodName × Nat) : Prop := (q.1.cls ≠ "java/lang/invoke/MethodHandle" ∧ q.1.cls ≠ "java/lang/invoke/VarHandle") ∧ Cond.instantiable q.1.cls q.2 ∈ tables_1 ∧ Cond.privateMethod q.1 ∈ tables_1 ∧ Cond.instanceMethod q.1 ∈ tables_1
theorem lw_p0 : lw_okq (⟨"ScaleForge", "trayAt", "(I)LScaleForge$Tray;"⟩, 19) := ⟨⟨by decide +kernel, by decide +kernel⟩, List.mem_of_getElem? (i := 22) (by decide +kernel), List.mem_of_getElem? (i := 421) (by decide +kernel), List.mem_of_getElem? (i := 422) (by decide +kernel)⟩
theorem lw_p1 : lw_okq (⟨"ScaleForge", "refuse", "(I)Z"⟩, 19) := ⟨⟨by decide +kernel, by decide +kernel⟩, List.mem_of_getElem? (i := 22) (by decide +kernel), List.mem_of_getElem? (i := 425) (by decide +kernel), List.mem_of_getElem? (i := 426) (by decide +kernel)⟩
theorem lw_p2 : lw_okq (⟨"ScaleForge", "grant", "()Z"⟩, 19) := ⟨⟨by decide +kernel, by decide +kernel⟩, List.mem_of_getElem? (i := 22) (by decide +kernel), List.mem_of_getElem? (i := 433) (by decide +kernel), List.mem_of_getElem? (i := 434) (by decide +kernel)⟩
theorem lw_p3 : lw_okq (⟨"ScaleForge$Tray", "cut", "(J)J"⟩, 3) := ⟨⟨by decide +kernel, by decide +kernel⟩, List.mem_of_getElem? (i := 31) (by decide +kernel), List.mem_of_getElem? (i := 457) (by decide +kernel), List.mem_of_getElem? (i := 458) (by decide +kernel)⟩
theorem lw_p4 : lw_okq (⟨"ScaleForge", "none", "(I)I"⟩, 19) := ⟨⟨by decide +kernel, by decide +kernel⟩, List.mem_of_getElem? (i := 22) (by decide +kernel), List.mem_of_getElem? (i := 465) (by decide +kernel), List.mem_of_getElem? (i := 466) (by decide +kernel)⟩
theorem lw_p5 : lw_okq (⟨"ScaleForge$Reader", "byteAt", "(I)I"⟩, 9) := ⟨⟨by decide +kernel, by decide +kernel⟩, List.mem_of_getElem? (i := 50) (by decide +kernel), List.mem_of_getElem? (i := 508) (by decide +kernel), List.mem_of_getElem? (i := 509) (by decide +kernel)⟩
theorem lw_p6 : lw_okq (⟨"ScaleForge$Reader", "passWord", "()V"⟩, 9) := ⟨⟨by decide +kernel, by decide +kernel⟩, List.mem_of_getElem? (i := 50) (by decide +kernel), List.mem_of_getElem? (i := 518) (by decide +kernel), List.mem_of_getElem? (i := 519) (by decide +kernel)⟩
theorem lw_p7 : lw_okq (⟨"ScaleForge$Reader", "passNumber", "()V"⟩, 9) := ⟨⟨by decide +kernel, by decide +kernel⟩, List.mem_of_getElem? (i := 50) (by decide +kernel), List.mem_of_getElem? (i := 525) (by decide +kernel), List.mem_of_getElem? (i := 526) (by decide +kernel)⟩
theorem lw_p8 : lw_okq (⟨"ScaleForge$ScaleText", "partNow", "()I"⟩, 3) := ⟨⟨by decide +kernel, by decide +kernel⟩, List.mem_of_getElem? (i := 92) (by decide +kernel), List.mem_of_getElem? (i := 537) (by decide +kernel), List.mem_of_getElem? (i := 538) (by decide +kernel)⟩
theorem lw_p9 : lw_okq (⟨"ScaleForge$ScaleText", "takePart", "(I)Z"⟩, 3) := ⟨⟨by decide +kernel, by decide +kernel⟩, List.mem_of_getElem? (i := 92) (by decide +kernel), List.mem_of_getElem? (i := 603) (by decide +kernel), List.mem_of_getElem? (i := 604) (by decide +kernel)⟩
theorem lw_p10 : lw_okq (⟨"ScaleForge$ScaleText", "isTooLate", "(I)Z"⟩, 3) := ⟨⟨by decide +kernel, by decide +kernel⟩, List.mem_of_getElem? (i := 92) (by decide +kernel), List.mem_of_getElem? (i := 608) (by decide +kernel), List.mem_of_getElem? (i := 609) (by decide +kernel)⟩
theorem lw_p11 : lw_okq (⟨"ScaleForge$ScaleText", "takeSounds", "()Z"⟩, 3) := ⟨⟨by decide +kernel, by decide +kernel⟩, List.mem_of_getElem? (i := 92) (by decide +kernel), List.mem_of_getElem? (i := 616) (by decide +kernel), List.mem_of_getElem? (i := 617) (by decide +kernel)⟩
theorem lw_p12 : lw_okq (⟨"ScaleForge", "give", "(I)I"⟩, 19) := ⟨⟨by decide +kernel, by decide +kernel⟩, List.mem_of_getElem? (i := 22) (by decide +kernel), List.mem_of_getElem? (i := 671) (by decide +kernel), List.mem_of_getElem? (i := 672) (by decide +kernel)⟩
theorem lw_p13 : lw_okq (⟨"ScaleForge$StudyText", "takeEnd", "()Z"⟩, 4) := ⟨⟨by decide +kernel, by decide +kernel⟩, List.mem_of_getElem? (i := 171) (by decide +kernel), List.mem_of_getElem? (i := 688) (by decide +kernel), List.mem_of_getElem? (i := 689) (by decide +kernel)⟩
theorem lw_p14 : lw_okq (⟨"ScaleForge$StudyText", "kindNow", "()I"⟩, 4) := ⟨⟨by decide +kernel, by decide +kernel⟩, List.mem_of_getElem? (i := 171) (by decide +kernel), List.mem_of_getElem? (i := 697) (by decide +kernel), List.mem_of_getElem? (i := 698) (by decide +kernel)⟩
theorem lw_p15 : lw_okq (⟨"ScaleForge$StudyText", "takeStep", "(I)Z"⟩, 4) := ⟨⟨by decide +kernel, by decide +kernel⟩, List.mem_of_getElem? (i := 171) (by decide +kernel), List.mem_of_getElem? (i := 710) (by decide +kernel), List.mem_of_getElem? (i := 711) (by decide +kernel)⟩
def lw_privs_1 : List (MethodName × Nat) := [(⟨"ScaleForge", "trayAt", "(I)LScaleForge$Tray;"⟩, 19), (⟨"ScaleForge", "refuse", "(I)Z"⟩, 19), (⟨"ScaleForge", "grant", "()Z"⟩, 19), (⟨"ScaleForge$Tray", "cut", "(J)J"⟩, 3), (⟨"ScaleForge", "none", "(I)I"⟩, 19), (⟨"ScaleForge$Reader", "byteAt", "(I)I"⟩, 9), (⟨"ScaleForge$Reader", "passWord", "()V"⟩, 9), (⟨"ScaleForge$Reader", "passNumber", "()V"⟩, 9), (⟨"ScaleForge$ScaleText", "partNow", "()I"⟩, 3), (⟨"ScaleForge$ScaleText", "takePart", "(I)Z"⟩, 3), (⟨"ScaleForge$ScaleText", "isTooLate", "(I)Z"⟩, 3), (⟨"ScaleForge$ScaleText", "takeSounds", "()Z"⟩, 3), (⟨"ScaleForge", "give", "(I)I"⟩, 19), (⟨"ScaleForge$StudyText", "takeEnd", "()Z"⟩, 4), (⟨"ScaleForge$StudyText", "kindNow", "()I"⟩, 4), (⟨"ScaleForge$StudyText", "takeStep", "(I)Z"⟩, 4)]
theorem lw_r1 : ∀ q ∈ lw_privs_1, lw_okq q := List.forall_mem_cons.mpr ⟨lw_p0, List.forall_mem_cons.mpr ⟨lw_p1, List.forall_mem_cons.mpr ⟨lw_p2, List.forall_mem_cons.mpr ⟨lw_p3, List.forall_mem_cons.mpr ⟨lw_p4, List.forall_mem_cons.mpr ⟨lw_p5, List.forall_mem_cons.mpr ⟨lw_p6, List.forall_mem_cons.mpr ⟨lw_p7, List.forall_mem_cons.mpr ⟨lw_p8, List.forall_mem_cons.mpr ⟨lw_p9, List.forall_mem_cons.mpr ⟨lw_p10, List.forall_mem_cons.mpr ⟨lw_p11, List.forall_mem_cons.mpr ⟨lw_p12, List.forall_mem_cons.mpr ⟨lw_p13, List.forall_mem_cons.mpr ⟨lw_p14, List.forall_mem_cons.mpr ⟨lw_p15, fun _ h => absurd h List.not_mem_nil⟩⟩⟩⟩⟩⟩⟩⟩⟩⟩⟩⟩⟩⟩⟩⟩
theorem lw_p16 : lw_okq (⟨"ScaleForge$StudyText", "takeTest", "(I)Z"⟩, 4) := ⟨⟨by decide +kernel, by decide +kernel⟩, List.mem_of_getElem? (i := 171) (by decide +kernel), List.mem_of_getElem? (i := 714) (by decide +kernel), List.mem_of_getElem? (i := 715) (by decide +kernel)⟩
theorem lw_p17 : lw_okq (⟨"ScaleForge$StudyText", "comparesNow", "()I"⟩, 4) := ⟨⟨by decide +kernel, by decide +kernel⟩, List.mem_of_getElem? (i := 171) (by decide +kernel), List.mem_of_getElem? (i := 719) (by decide +kernel), List.mem_of_getElem? (i := 720) (by decide +kernel)⟩
theorem lw_p18 : lw_okq (⟨"ScaleForge$StudyText", "toneTestNow", "()I"⟩, 4) := ⟨⟨by decide +kernel, by decide +kernel⟩, List.mem_of_getElem? (i := 171) (by decide +kernel), List.mem_of_getElem? (i := 724) (by decide +kernel), List.mem_of_getElem? (i := 725) (by decide +kernel)⟩
theorem lw_p19 : lw_okq (⟨"ScaleForge", "degreesRing", "()LScaleForge$Ring;"⟩, 19) := ⟨⟨by decide +kernel, by decide +kernel⟩, List.mem_of_getElem? (i := 22) (by decide +kernel), List.mem_of_getElem? (i := 751) (by decide +kernel), List.mem_of_getElem? (i := 752) (by decide +kernel)⟩
theorem lw_p20 : lw_okq (⟨"ScaleForge$Ring", "between", "(II)I"⟩, 4) := ⟨⟨by decide +kernel, by decide +kernel⟩, List.mem_of_getElem? (i := 232) (by decide +kernel), List.mem_of_getElem? (i := 769) (by decide +kernel), List.mem_of_getElem? (i := 770) (by decide +kernel)⟩
theorem lw_p21 : lw_okq (⟨"ScaleForge", "isDegree", "(I)Z"⟩, 19) := ⟨⟨by decide +kernel, by decide +kernel⟩, List.mem_of_getElem? (i := 22) (by decide +kernel), List.mem_of_getElem? (i := 794) (by decide +kernel), List.mem_of_getElem? (i := 795) (by decide +kernel)⟩
theorem lw_p22 : lw_okq (⟨"ScaleForge", "degreeOf", "(I)I"⟩, 19) := ⟨⟨by decide +kernel, by decide +kernel⟩, List.mem_of_getElem? (i := 22) (by decide +kernel), List.mem_of_getElem? (i := 809) (by decide +kernel), List.mem_of_getElem? (i := 810) (by decide +kernel)⟩
theorem lw_p23 : lw_okq (⟨"ScaleForge", "giveFound", "(I)I"⟩, 19) := ⟨⟨by decide +kernel, by decide +kernel⟩, List.mem_of_getElem? (i := 22) (by decide +kernel), List.mem_of_getElem? (i := 831) (by decide +kernel), List.mem_of_getElem? (i := 832) (by decide +kernel)⟩
theorem lw_p24 : lw_okq (⟨"ScaleForge", "wellFormed", "()J"⟩, 19) := ⟨⟨by decide +kernel, by decide +kernel⟩, List.mem_of_getElem? (i := 22) (by decide +kernel), List.mem_of_getElem? (i := 925) (by decide +kernel), List.mem_of_getElem? (i := 926) (by decide +kernel)⟩
theorem lw_p25 : lw_okq (⟨"ScaleForge", "darkerThan", "(II)I"⟩, 19) := ⟨⟨by decide +kernel, by decide +kernel⟩, List.mem_of_getElem? (i := 22) (by decide +kernel), List.mem_of_getElem? (i := 959) (by decide +kernel), List.mem_of_getElem? (i := 960) (by decide +kernel)⟩
theorem lw_p26 : lw_okq (⟨"ScaleForge$Guessing", "staying", "(II)I"⟩, 2) := ⟨⟨by decide +kernel, by decide +kernel⟩, List.mem_of_getElem? (i := 252) (by decide +kernel), List.mem_of_getElem? (i := 1060) (by decide +kernel), List.mem_of_getElem? (i := 1061) (by decide +kernel)⟩
theorem lw_p27 : lw_okq (⟨"ScaleForge$Walk", "fewestFrom", "(II)I"⟩, 5) := ⟨⟨by decide +kernel, by decide +kernel⟩, List.mem_of_getElem? (i := 266) (by decide +kernel), List.mem_of_getElem? (i := 1080) (by decide +kernel), List.mem_of_getElem? (i := 1081) (by decide +kernel)⟩
theorem lw_p28 : lw_okq (⟨"ScaleForge$Walk", "farBy", "(III)I"⟩, 5) := ⟨⟨by decide +kernel, by decide +kernel⟩, List.mem_of_getElem? (i := 266) (by decide +kernel), List.mem_of_getElem? (i := 1084) (by decide +kernel), List.mem_of_getElem? (i := 1085) (by decide +kernel)⟩
theorem lw_p29 : lw_okq (⟨"ScaleForge$Walk", "apart", "(II)I"⟩, 5) := ⟨⟨by decide +kernel, by decide +kernel⟩, List.mem_of_getElem? (i := 266) (by decide +kernel), List.mem_of_getElem? (i := 1088) (by decide +kernel), List.mem_of_getElem? (i := 1089) (by decide +kernel)⟩
theorem lw_p30 : lw_okq (⟨"ScaleForge$Walk", "getToGo", "(II)I"⟩, 5) := ⟨⟨by decide +kernel, by decide +kernel⟩, List.mem_of_getElem? (i := 266) (by decide +kernel), List.mem_of_getElem? (i := 1094) (by decide +kernel), List.mem_of_getElem? (i := 1095) (by decide +kernel)⟩
theorem lw_p31 : lw_okq (⟨"ScaleForge$Walk", "setToGo", "(III)V"⟩, 5) := ⟨⟨by decide +kernel, by decide +kernel⟩, List.mem_of_getElem? (i := 266) (by decide +kernel), List.mem_of_getElem? (i := 1098) (by decide +kernel), List.mem_of_getElem? (i := 1099) (by decide +kernel)⟩
def lw_privs_2 : List (MethodName × Nat) := [(⟨"ScaleForge$StudyText", "takeTest", "(I)Z"⟩, 4), (⟨"ScaleForge$StudyText", "comparesNow", "()I"⟩, 4), (⟨"ScaleForge$StudyText", "toneTestNow", "()I"⟩, 4), (⟨"ScaleForge", "degreesRing", "()LScaleForge$Ring;"⟩, 19), (⟨"ScaleForge$Ring", "between", "(II)I"⟩, 4), (⟨"ScaleForge", "isDegree", "(I)Z"⟩, 19), (⟨"ScaleForge", "degreeOf", "(I)I"⟩, 19), (⟨"ScaleForge", "giveFound", "(I)I"⟩, 19), (⟨"ScaleForge", "wellFormed", "()J"⟩, 19), (⟨"ScaleForge", "darkerThan", "(II)I"⟩, 19), (⟨"ScaleForge$Guessing", "staying", "(II)I"⟩, 2), (⟨"ScaleForge$Walk", "fewestFrom", "(II)I"⟩, 5), (⟨"ScaleForge$Walk", "farBy", "(III)I"⟩, 5), (⟨"ScaleForge$Walk", "apart", "(II)I"⟩, 5), (⟨"ScaleForge$Walk", "getToGo", "(II)I"⟩, 5), (⟨"ScaleForge$Walk", "setToGo", "(III)V"⟩, 5)]
theorem lw_r2 : ∀ q ∈ lw_privs_2, lw_okq q := List.forall_mem_cons.mpr ⟨lw_p16, List.forall_mem_cons.mpr ⟨lw_p17, List.forall_mem_cons.mpr ⟨lw_p18, List.forall_mem_cons.mpr ⟨lw_p19, List.forall_mem_cons.mpr ⟨lw_p20, List.forall_mem_cons.mpr ⟨lw_p21, List.forall_mem_cons.mpr ⟨lw_p22, List.forall_mem_cons.mpr ⟨lw_p23, List.forall_mem_cons.mpr ⟨lw_p24, List.forall_mem_cons.mpr ⟨lw_p25, List.forall_mem_cons.mpr ⟨lw_p26, List.forall_mem_cons.mpr ⟨lw_p27, List.forall_mem_cons.mpr ⟨lw_p28, List.forall_mem_cons.mpr ⟨lw_p29, List.forall_mem_cons.mpr ⟨lw_p30, List.forall_mem_cons.mpr ⟨lw_p31, fun _ h => absurd h List.not_mem_nil⟩⟩⟩⟩⟩⟩⟩⟩⟩⟩⟩⟩⟩⟩⟩⟩
theorem lw_p32 : lw_okq (⟨"ScaleForge$Walk", "putInOrder", "()V"⟩, 5) := ⟨⟨by decide +kernel, by decide +kernel⟩, List.mem_of_getElem? (i := 266) (by decide +kernel), List.mem_of_getElem? (i := 1102) (by decide +kernel), List.mem_of_getElem? (i := 1103) (by decide +kernel)⟩
theorem lw_p33 : lw_okq (⟨"ScaleForge", "tripleShapes", "(LScaleForge$Ring;)I"⟩, 19) := ⟨⟨by decide +kernel, by decide +kernel⟩, List.mem_of_getElem? (i := 22) (by decide +kernel), List.mem_of_getElem? (i := 1125) (by decide +kernel), List.mem_of_getElem? (i := 1126) (by decide +kernel)⟩
theorem lw_p34 : lw_okq (⟨"ScaleForge", "tell", "(JJ)Z"⟩, 19) := ⟨⟨by decide +kernel, by decide +kernel⟩, List.mem_of_getElem? (i := 22) (by decide +kernel), List.mem_of_getElem? (i := 1141) (by decide +kernel), List.mem_of_getElem? (i := 1142) (by decide +kernel)⟩
theorem lw_p35 : lw_okq (⟨"ScaleForge", "isStepApart", "(II)Z"⟩, 19) := ⟨⟨by decide +kernel, by decide +kernel⟩, List.mem_of_getElem? (i := 22) (by decide +kernel), List.mem_of_getElem? (i := 1172) (by decide +kernel), List.mem_of_getElem? (i := 1173) (by decide +kernel)⟩
theorem lw_p36 : lw_okq (⟨"ScaleForge$Life", "isAtEnd", "()Z"⟩, 16) := ⟨⟨by decide +kernel, by decide +kernel⟩, List.mem_of_getElem? (i := 288) (by decide +kernel), List.mem_of_getElem? (i := 1184) (by decide +kernel), List.mem_of_getElem? (i := 1185) (by decide +kernel)⟩
theorem lw_p37 : lw_okq (⟨"ScaleForge$Life", "innermost", "()I"⟩, 16) := ⟨⟨by decide +kernel, by decide +kernel⟩, List.mem_of_getElem? (i := 288) (by decide +kernel), List.mem_of_getElem? (i := 1188) (by decide +kernel), List.mem_of_getElem? (i := 1189) (by decide +kernel)⟩
theorem lw_p38 : lw_okq (⟨"ScaleForge$Life", "endInnermost", "()V"⟩, 16) := ⟨⟨by decide +kernel, by decide +kernel⟩, List.mem_of_getElem? (i := 288) (by decide +kernel), List.mem_of_getElem? (i := 1193) (by decide +kernel), List.mem_of_getElem? (i := 1194) (by decide +kernel)⟩
theorem lw_p39 : lw_okq (⟨"ScaleForge$Life", "dropHeld", "(I)V"⟩, 16) := ⟨⟨by decide +kernel, by decide +kernel⟩, List.mem_of_getElem? (i := 288) (by decide +kernel), List.mem_of_getElem? (i := 1197) (by decide +kernel), List.mem_of_getElem? (i := 1198) (by decide +kernel)⟩
theorem lw_p40 : lw_okq (⟨"ScaleForge$Life", "comesToStep", "()Z"⟩, 16) := ⟨⟨by decide +kernel, by decide +kernel⟩, List.mem_of_getElem? (i := 288) (by decide +kernel), List.mem_of_getElem? (i := 1202) (by decide +kernel), List.mem_of_getElem? (i := 1203) (by decide +kernel)⟩
theorem lw_p41 : lw_okq (⟨"ScaleForge$Life", "doStep", "(I)V"⟩, 16) := ⟨⟨by decide +kernel, by decide +kernel⟩, List.mem_of_getElem? (i := 288) (by decide +kernel), List.mem_of_getElem? (i := 1206) (by decide +kernel), List.mem_of_getElem? (i := 1207) (by decide +kernel)⟩
theorem lw_p42 : lw_okq (⟨"ScaleForge$Life", "strikeOrMiss", "(I)Z"⟩, 16) := ⟨⟨by decide +kernel, by decide +kernel⟩, List.mem_of_getElem? (i := 288) (by decide +kernel), List.mem_of_getElem? (i := 1210) (by decide +kernel), List.mem_of_getElem? (i := 1211) (by decide +kernel)⟩
theorem lw_p43 : lw_okq (⟨"ScaleForge$Life", "releaseOrMiss", "(I)V"⟩, 16) := ⟨⟨by decide +kernel, by decide +kernel⟩, List.mem_of_getElem? (i := 288) (by decide +kernel), List.mem_of_getElem? (i := 1215) (by decide +kernel), List.mem_of_getElem? (i := 1216) (by decide +kernel)⟩
theorem lw_p44 : lw_okq (⟨"ScaleForge$Life", "doAny", "()V"⟩, 16) := ⟨⟨by decide +kernel, by decide +kernel⟩, List.mem_of_getElem? (i := 288) (by decide +kernel), List.mem_of_getElem? (i := 1223) (by decide +kernel), List.mem_of_getElem? (i := 1224) (by decide +kernel)⟩
theorem lw_p45 : lw_okq (⟨"ScaleForge$Life", "draw", "(I)I"⟩, 16) := ⟨⟨by decide +kernel, by decide +kernel⟩, List.mem_of_getElem? (i := 288) (by decide +kernel), List.mem_of_getElem? (i := 1228) (by decide +kernel), List.mem_of_getElem? (i := 1229) (by decide +kernel)⟩
theorem lw_p46 : lw_okq (⟨"ScaleForge$Life", "enterIf", "(ZII)V"⟩, 16) := ⟨⟨by decide +kernel, by decide +kernel⟩, List.mem_of_getElem? (i := 288) (by decide +kernel), List.mem_of_getElem? (i := 1234) (by decide +kernel), List.mem_of_getElem? (i := 1235) (by decide +kernel)⟩
theorem lw_p47 : lw_okq (⟨"ScaleForge$Life", "isSo", "(II)Z"⟩, 16) := ⟨⟨by decide +kernel, by decide +kernel⟩, List.mem_of_getElem? (i := 288) (by decide +kernel), List.mem_of_getElem? (i := 1238) (by decide +kernel), List.mem_of_getElem? (i := 1239) (by decide +kernel)⟩
def lw_privs_3 : List (MethodName × Nat) := [(⟨"ScaleForge$Walk", "putInOrder", "()V"⟩, 5), (⟨"ScaleForge", "tripleShapes", "(LScaleForge$Ring;)I"⟩, 19), (⟨"ScaleForge", "tell", "(JJ)Z"⟩, 19), (⟨"ScaleForge", "isStepApart", "(II)Z"⟩, 19), (⟨"ScaleForge$Life", "isAtEnd", "()Z"⟩, 16), (⟨"ScaleForge$Life", "innermost", "()I"⟩, 16), (⟨"ScaleForge$Life", "endInnermost", "()V"⟩, 16), (⟨"ScaleForge$Life", "dropHeld", "(I)V"⟩, 16), (⟨"ScaleForge$Life", "comesToStep", "()Z"⟩, 16), (⟨"ScaleForge$Life", "doStep", "(I)V"⟩, 16), (⟨"ScaleForge$Life", "strikeOrMiss", "(I)Z"⟩, 16), (⟨"ScaleForge$Life", "releaseOrMiss", "(I)V"⟩, 16), (⟨"ScaleForge$Life", "doAny", "()V"⟩, 16), (⟨"ScaleForge$Life", "draw", "(I)I"⟩, 16), (⟨"ScaleForge$Life", "enterIf", "(ZII)V"⟩, 16), (⟨"ScaleForge$Life", "isSo", "(II)Z"⟩, 16)]
theorem lw_r3 : ∀ q ∈ lw_privs_3, lw_okq q := List.forall_mem_cons.mpr ⟨lw_p32, List.forall_mem_cons.mpr ⟨lw_p33, List.forall_mem_cons.mpr ⟨lw_p34, List.forall_mem_cons.mpr ⟨lw_p35, List.forall_mem_cons.mpr ⟨lw_p36, List.forall_mem_cons.mpr ⟨lw_p37, List.forall_mem_cons.mpr ⟨lw_p38, List.forall_mem_cons.mpr ⟨lw_p39, List.forall_mem_cons.mpr ⟨lw_p40, List.forall_mem_cons.mpr ⟨lw_p41, List.forall_mem_cons.mpr ⟨lw_p42, List.forall_mem_cons.mpr ⟨lw_p43, List.forall_mem_cons.mpr ⟨lw_p44, List.forall_mem_cons.mpr ⟨lw_p45, List.forall_mem_cons.mpr ⟨lw_p46, List.forall_mem_cons.mpr ⟨lw_p47, fun _ h => absurd h List.not_mem_nil⟩⟩⟩⟩⟩⟩⟩⟩⟩⟩⟩⟩⟩⟩⟩⟩
theorem lw_p48 : lw_okq (⟨"ScaleForge$Life", "leaveHold", "()V"⟩, 16) := ⟨⟨by decide +kernel, by decide +kernel⟩, List.mem_of_getElem? (i := 288) (by decide +kernel), List.mem_of_getElem? (i := 1245) (by decide +kernel), List.mem_of_getElem? (i := 1246) (by decide +kernel)⟩
theorem lw_p49 : lw_okq (⟨"ScaleForge$Life", "letAllGo", "()V"⟩, 16) := ⟨⟨by decide +kernel, by decide +kernel⟩, List.mem_of_getElem? (i := 288) (by decide +kernel), List.mem_of_getElem? (i := 1249) (by decide +kernel), List.mem_of_getElem? (i := 1250) (by decide +kernel)⟩
theorem lw_p50 : lw_okq (⟨"ScaleForgeModel", "plain", "(I)V"⟩, 56) := ⟨⟨by decide +kernel, by decide +kernel⟩, List.mem_of_getElem? (i := 1281) (by decide +kernel), List.mem_of_getElem? (i := 1287) (by decide +kernel), List.mem_of_getElem? (i := 1288) (by decide +kernel)⟩
theorem lw_p51 : lw_okq (⟨"ScaleForgeModel", "is", "(I)Z"⟩, 56) := ⟨⟨by decide +kernel, by decide +kernel⟩, List.mem_of_getElem? (i := 1281) (by decide +kernel), List.mem_of_getElem? (i := 1480) (by decide +kernel), List.mem_of_getElem? (i := 1481) (by decide +kernel)⟩
theorem lw_p52 : lw_okq (⟨"ScaleForgeModel", "wrongPlace", "(II)I"⟩, 56) := ⟨⟨by decide +kernel, by decide +kernel⟩, List.mem_of_getElem? (i := 1281) (by decide +kernel), List.mem_of_getElem? (i := 1488) (by decide +kernel), List.mem_of_getElem? (i := 1489) (by decide +kernel)⟩
theorem lw_p53 : lw_okq (⟨"ScaleForgeModel", "four", "(I)V"⟩, 56) := ⟨⟨by decide +kernel, by decide +kernel⟩, List.mem_of_getElem? (i := 1281) (by decide +kernel), List.mem_of_getElem? (i := 1508) (by decide +kernel), List.mem_of_getElem? (i := 1509) (by decide +kernel)⟩
theorem lw_p54 : lw_okq (⟨"ScaleForgeModel", "begins", "(II)Z"⟩, 56) := ⟨⟨by decide +kernel, by decide +kernel⟩, List.mem_of_getElem? (i := 1281) (by decide +kernel), List.mem_of_getElem? (i := 1520) (by decide +kernel), List.mem_of_getElem? (i := 1521) (by decide +kernel)⟩
theorem lw_p55 : lw_okq (⟨"ScaleForgeModel", "ahead", "()V"⟩, 56) := ⟨⟨by decide +kernel, by decide +kernel⟩, List.mem_of_getElem? (i := 1281) (by decide +kernel), List.mem_of_getElem? (i := 1524) (by decide +kernel), List.mem_of_getElem? (i := 1525) (by decide +kernel)⟩
theorem lw_p56 : lw_okq (⟨"ScaleForgeModel", "byteAt", "(I)I"⟩, 56) := ⟨⟨by decide +kernel, by decide +kernel⟩, List.mem_of_getElem? (i := 1281) (by decide +kernel), List.mem_of_getElem? (i := 1528) (by decide +kernel), List.mem_of_getElem? (i := 1529) (by decide +kernel)⟩
theorem lw_p57 : lw_okq (⟨"ScaleForgeModel", "refuse", "(I)I"⟩, 56) := ⟨⟨by decide +kernel, by decide +kernel⟩, List.mem_of_getElem? (i := 1281) (by decide +kernel), List.mem_of_getElem? (i := 1540) (by decide +kernel), List.mem_of_getElem? (i := 1541) (by decide +kernel)⟩
theorem lw_p58 : lw_okq (⟨"ScaleForgeModel", "scalePart", "()Z"⟩, 56) := ⟨⟨by decide +kernel, by decide +kernel⟩, List.mem_of_getElem? (i := 1281) (by decide +kernel), List.mem_of_getElem? (i := 1544) (by decide +kernel), List.mem_of_getElem? (i := 1545) (by decide +kernel)⟩
theorem lw_p59 : lw_okq (⟨"ScaleForgeModel", "inWords", "(Ljava/lang/String;)I"⟩, 56) := ⟨⟨by decide +kernel, by decide +kernel⟩, List.mem_of_getElem? (i := 1281) (by decide +kernel), List.mem_of_getElem? (i := 1549) (by decide +kernel), List.mem_of_getElem? (i := 1550) (by decide +kernel)⟩
theorem lw_p60 : lw_okq (⟨"ScaleForgeModel", "fails", "(I)Z"⟩, 56) := ⟨⟨by decide +kernel, by decide +kernel⟩, List.mem_of_getElem? (i := 1281) (by decide +kernel), List.mem_of_getElem? (i := 1555) (by decide +kernel), List.mem_of_getElem? (i := 1556) (by decide +kernel)⟩
theorem lw_p61 : lw_okq (⟨"ScaleForgeModel", "isIn", "(II)Z"⟩, 56) := ⟨⟨by decide +kernel, by decide +kernel⟩, List.mem_of_getElem? (i := 1281) (by decide +kernel), List.mem_of_getElem? (i := 1559) (by decide +kernel), List.mem_of_getElem? (i := 1560) (by decide +kernel)⟩
theorem lw_p62 : lw_okq (⟨"ScaleForgeModel", "sounding", "()Z"⟩, 56) := ⟨⟨by decide +kernel, by decide +kernel⟩, List.mem_of_getElem? (i := 1281) (by decide +kernel), List.mem_of_getElem? (i := 1563) (by decide +kernel), List.mem_of_getElem? (i := 1564) (by decide +kernel)⟩
theorem lw_p63 : lw_okq (⟨"ScaleForgeModel", "number", "(III)Z"⟩, 56) := ⟨⟨by decide +kernel, by decide +kernel⟩, List.mem_of_getElem? (i := 1281) (by decide +kernel), List.mem_of_getElem? (i := 1567) (by decide +kernel), List.mem_of_getElem? (i := 1568) (by decide +kernel)⟩
def lw_privs_4 : List (MethodName × Nat) := [(⟨"ScaleForge$Life", "leaveHold", "()V"⟩, 16), (⟨"ScaleForge$Life", "letAllGo", "()V"⟩, 16), (⟨"ScaleForgeModel", "plain", "(I)V"⟩, 56), (⟨"ScaleForgeModel", "is", "(I)Z"⟩, 56), (⟨"ScaleForgeModel", "wrongPlace", "(II)I"⟩, 56), (⟨"ScaleForgeModel", "four", "(I)V"⟩, 56), (⟨"ScaleForgeModel", "begins", "(II)Z"⟩, 56), (⟨"ScaleForgeModel", "ahead", "()V"⟩, 56), (⟨"ScaleForgeModel", "byteAt", "(I)I"⟩, 56), (⟨"ScaleForgeModel", "refuse", "(I)I"⟩, 56), (⟨"ScaleForgeModel", "scalePart", "()Z"⟩, 56), (⟨"ScaleForgeModel", "inWords", "(Ljava/lang/String;)I"⟩, 56), (⟨"ScaleForgeModel", "fails", "(I)Z"⟩, 56), (⟨"ScaleForgeModel", "isIn", "(II)Z"⟩, 56), (⟨"ScaleForgeModel", "sounding", "()Z"⟩, 56), (⟨"ScaleForgeModel", "number", "(III)Z"⟩, 56)]
theorem lw_r4 : ∀ q ∈ lw_privs_4, lw_okq q := List.forall_mem_cons.mpr ⟨lw_p48, List.forall_mem_cons.mpr ⟨lw_p49, List.forall_mem_cons.mpr ⟨lw_p50, List.forall_mem_cons.mpr ⟨lw_p51, List.forall_mem_cons.mpr ⟨lw_p52, List.forall_mem_cons.mpr ⟨lw_p53, List.forall_mem_cons.mpr ⟨lw_p54, List.forall_mem_cons.mpr ⟨lw_p55, List.forall_mem_cons.mpr ⟨lw_p56, List.forall_mem_cons.mpr ⟨lw_p57, List.forall_mem_cons.mpr ⟨lw_p58, List.forall_mem_cons.mpr ⟨lw_p59, List.forall_mem_cons.mpr ⟨lw_p60, List.forall_mem_cons.mpr ⟨lw_p61, List.forall_mem_cons.mpr ⟨lw_p62, List.forall_mem_cons.mpr ⟨lw_p63, fun _ h => absurd h List.not_mem_nil⟩⟩⟩⟩⟩⟩⟩⟩⟩⟩⟩⟩⟩⟩⟩⟩
theorem lw_p64 : lw_okq (⟨"ScaleForgeModel", "wantSign", "(I)Z"⟩, 56) := ⟨⟨by decide +kernel, by decide +kernel⟩, List.mem_of_getElem? (i := 1281) (by decide +kernel), List.mem_of_getElem? (i := 1571) (by decide +kernel), List.mem_of_getElem? (i := 1572) (by decide +kernel)⟩
theorem lw_p65 : lw_okq (⟨"ScaleForgeModel", "isSign", "(I)Z"⟩, 56) := ⟨⟨by decide +kernel, by decide +kernel⟩, List.mem_of_getElem? (i := 1281) (by decide +kernel), List.mem_of_getElem? (i := 1575) (by decide +kernel), List.mem_of_getElem? (i := 1576) (by decide +kernel)⟩
theorem lw_p66 : lw_okq (⟨"ScaleForgeModel", "folds", "(I)V"⟩, 56) := ⟨⟨by decide +kernel, by decide +kernel⟩, List.mem_of_getElem? (i := 1281) (by decide +kernel), List.mem_of_getElem? (i := 1585) (by decide +kernel), List.mem_of_getElem? (i := 1586) (by decide +kernel)⟩
theorem lw_p67 : lw_okq (⟨"ScaleForgeModel", "laysScale", "()V"⟩, 56) := ⟨⟨by decide +kernel, by decide +kernel⟩, List.mem_of_getElem? (i := 1281) (by decide +kernel), List.mem_of_getElem? (i := 1592) (by decide +kernel), List.mem_of_getElem? (i := 1593) (by decide +kernel)⟩
theorem lw_p68 : lw_okq (⟨"ScaleForgeModel", "lays", "(II)V"⟩, 56) := ⟨⟨by decide +kernel, by decide +kernel⟩, List.mem_of_getElem? (i := 1281) (by decide +kernel), List.mem_of_getElem? (i := 1596) (by decide +kernel), List.mem_of_getElem? (i := 1597) (by decide +kernel)⟩
theorem lw_p69 : lw_okq (⟨"ScaleForgeModel", "chainBy", "(II)I"⟩, 56) := ⟨⟨by decide +kernel, by decide +kernel⟩, List.mem_of_getElem? (i := 1281) (by decide +kernel), List.mem_of_getElem? (i := 1600) (by decide +kernel), List.mem_of_getElem? (i := 1601) (by decide +kernel)⟩
theorem lw_p70 : lw_okq (⟨"ScaleForgeModel", "taken", "(I)I"⟩, 56) := ⟨⟨by decide +kernel, by decide +kernel⟩, List.mem_of_getElem? (i := 1281) (by decide +kernel), List.mem_of_getElem? (i := 1607) (by decide +kernel), List.mem_of_getElem? (i := 1608) (by decide +kernel)⟩
theorem lw_p71 : lw_okq (⟨"ScaleForgeModel", "gives", "(I)I"⟩, 56) := ⟨⟨by decide +kernel, by decide +kernel⟩, List.mem_of_getElem? (i := 1281) (by decide +kernel), List.mem_of_getElem? (i := 1611) (by decide +kernel), List.mem_of_getElem? (i := 1612) (by decide +kernel)⟩
theorem lw_p72 : lw_okq (⟨"ScaleForgeModel", "studyStep", "()Z"⟩, 56) := ⟨⟨by decide +kernel, by decide +kernel⟩, List.mem_of_getElem? (i := 1281) (by decide +kernel), List.mem_of_getElem? (i := 1619) (by decide +kernel), List.mem_of_getElem? (i := 1620) (by decide +kernel)⟩
theorem lw_p73 : lw_okq (⟨"ScaleForgeModel", "studyOrder", "(II)Z"⟩, 56) := ⟨⟨by decide +kernel, by decide +kernel⟩, List.mem_of_getElem? (i := 1281) (by decide +kernel), List.mem_of_getElem? (i := 1623) (by decide +kernel), List.mem_of_getElem? (i := 1624) (by decide +kernel)⟩
theorem lw_p74 : lw_okq (⟨"ScaleForgeModel", "test", "(I)Z"⟩, 56) := ⟨⟨by decide +kernel, by decide +kernel⟩, List.mem_of_getElem? (i := 1281) (by decide +kernel), List.mem_of_getElem? (i := 1627) (by decide +kernel), List.mem_of_getElem? (i := 1628) (by decide +kernel)⟩
theorem lw_p75 : lw_okq (⟨"ScaleForgeModel", "soundMany", "()I"⟩, 56) := ⟨⟨by decide +kernel, by decide +kernel⟩, List.mem_of_getElem? (i := 1281) (by decide +kernel), List.mem_of_getElem? (i := 1635) (by decide +kernel), List.mem_of_getElem? (i := 1636) (by decide +kernel)⟩
theorem lw_p76 : lw_okq (⟨"ScaleForgeModel", "sounds", "(I)I"⟩, 56) := ⟨⟨by decide +kernel, by decide +kernel⟩, List.mem_of_getElem? (i := 1281) (by decide +kernel), List.mem_of_getElem? (i := 1639) (by decide +kernel), List.mem_of_getElem? (i := 1640) (by decide +kernel)⟩
theorem lw_p77 : lw_okq (⟨"ScaleForgeModel", "isDegree", "(I)Z"⟩, 56) := ⟨⟨by decide +kernel, by decide +kernel⟩, List.mem_of_getElem? (i := 1281) (by decide +kernel), List.mem_of_getElem? (i := 1656) (by decide +kernel), List.mem_of_getElem? (i := 1657) (by decide +kernel)⟩
theorem lw_p78 : lw_okq (⟨"ScaleForgeModel", "isTone", "(I)Z"⟩, 56) := ⟨⟨by decide +kernel, by decide +kernel⟩, List.mem_of_getElem? (i := 1281) (by decide +kernel), List.mem_of_getElem? (i := 1664) (by decide +kernel), List.mem_of_getElem? (i := 1665) (by decide +kernel)⟩
theorem lw_p79 : lw_okq (⟨"ScaleForgeModel", "orNone", "(I)I"⟩, 56) := ⟨⟨by decide +kernel, by decide +kernel⟩, List.mem_of_getElem? (i := 1281) (by decide +kernel), List.mem_of_getElem? (i := 1668) (by decide +kernel), List.mem_of_getElem? (i := 1669) (by decide +kernel)⟩
def lw_privs_5 : List (MethodName × Nat) := [(⟨"ScaleForgeModel", "wantSign", "(I)Z"⟩, 56), (⟨"ScaleForgeModel", "isSign", "(I)Z"⟩, 56), (⟨"ScaleForgeModel", "folds", "(I)V"⟩, 56), (⟨"ScaleForgeModel", "laysScale", "()V"⟩, 56), (⟨"ScaleForgeModel", "lays", "(II)V"⟩, 56), (⟨"ScaleForgeModel", "chainBy", "(II)I"⟩, 56), (⟨"ScaleForgeModel", "taken", "(I)I"⟩, 56), (⟨"ScaleForgeModel", "gives", "(I)I"⟩, 56), (⟨"ScaleForgeModel", "studyStep", "()Z"⟩, 56), (⟨"ScaleForgeModel", "studyOrder", "(II)Z"⟩, 56), (⟨"ScaleForgeModel", "test", "(I)Z"⟩, 56), (⟨"ScaleForgeModel", "soundMany", "()I"⟩, 56), (⟨"ScaleForgeModel", "sounds", "(I)I"⟩, 56), (⟨"ScaleForgeModel", "isDegree", "(I)Z"⟩, 56), (⟨"ScaleForgeModel", "isTone", "(I)Z"⟩, 56), (⟨"ScaleForgeModel", "orNone", "(I)I"⟩, 56)]
theorem lw_r5 : ∀ q ∈ lw_privs_5, lw_okq q := List.forall_mem_cons.mpr ⟨lw_p64, List.forall_mem_cons.mpr ⟨lw_p65, List.forall_mem_cons.mpr ⟨lw_p66, List.forall_mem_cons.mpr ⟨lw_p67, List.forall_mem_cons.mpr ⟨lw_p68, List.forall_mem_cons.mpr ⟨lw_p69, List.forall_mem_cons.mpr ⟨lw_p70, List.forall_mem_cons.mpr ⟨lw_p71, List.forall_mem_cons.mpr ⟨lw_p72, List.forall_mem_cons.mpr ⟨lw_p73, List.forall_mem_cons.mpr ⟨lw_p74, List.forall_mem_cons.mpr ⟨lw_p75, List.forall_mem_cons.mpr ⟨lw_p76, List.forall_mem_cons.mpr ⟨lw_p77, List.forall_mem_cons.mpr ⟨lw_p78, List.forall_mem_cons.mpr ⟨lw_p79, fun _ h => absurd h List.not_mem_nil⟩⟩⟩⟩⟩⟩⟩⟩⟩⟩⟩⟩⟩⟩⟩⟩
theorem lw_p80 : lw_okq (⟨"ScaleForgeModel", "spanOf", "(II)I"⟩, 56) := ⟨⟨by decide +kernel, by decide +kernel⟩, List.mem_of_getElem? (i := 1281) (by decide +kernel), List.mem_of_getElem? (i := 1681) (by decide +kernel), List.mem_of_getElem? (i := 1682) (by decide +kernel)⟩
theorem lw_p81 : lw_okq (⟨"ScaleForgeModel", "isSize", "(I)Z"⟩, 56) := ⟨⟨by decide +kernel, by decide +kernel⟩, List.mem_of_getElem? (i := 1281) (by decide +kernel), List.mem_of_getElem? (i := 1689) (by decide +kernel), List.mem_of_getElem? (i := 1690) (by decide +kernel)⟩
theorem lw_p82 : lw_okq (⟨"ScaleForgeModel", "sizeCount", "(I)I"⟩, 56) := ⟨⟨by decide +kernel, by decide +kernel⟩, List.mem_of_getElem? (i := 1281) (by decide +kernel), List.mem_of_getElem? (i := 1697) (by decide +kernel), List.mem_of_getElem? (i := 1698) (by decide +kernel)⟩
theorem lw_p83 : lw_okq (⟨"ScaleForgeModel", "presses", "(I)Z"⟩, 56) := ⟨⟨by decide +kernel, by decide +kernel⟩, List.mem_of_getElem? (i := 1281) (by decide +kernel), List.mem_of_getElem? (i := 1709) (by decide +kernel), List.mem_of_getElem? (i := 1710) (by decide +kernel)⟩
theorem lw_p84 : lw_okq (⟨"ScaleForgeModel", "lifts", "(I)Z"⟩, 56) := ⟨⟨by decide +kernel, by decide +kernel⟩, List.mem_of_getElem? (i := 1281) (by decide +kernel), List.mem_of_getElem? (i := 1717) (by decide +kernel), List.mem_of_getElem? (i := 1718) (by decide +kernel)⟩
theorem lw_p85 : lw_okq (⟨"ScaleForgeModel", "keeps", "(I)V"⟩, 56) := ⟨⟨by decide +kernel, by decide +kernel⟩, List.mem_of_getElem? (i := 1281) (by decide +kernel), List.mem_of_getElem? (i := 1738) (by decide +kernel), List.mem_of_getElem? (i := 1739) (by decide +kernel)⟩
theorem lw_p86 : lw_okq (⟨"ScaleForgeModel", "fitNow", "()I"⟩, 56) := ⟨⟨by decide +kernel, by decide +kernel⟩, List.mem_of_getElem? (i := 1281) (by decide +kernel), List.mem_of_getElem? (i := 1742) (by decide +kernel), List.mem_of_getElem? (i := 1743) (by decide +kernel)⟩
theorem lw_p87 : lw_okq (⟨"ScaleForgeModel", "laysChain", "(II)V"⟩, 56) := ⟨⟨by decide +kernel, by decide +kernel⟩, List.mem_of_getElem? (i := 1281) (by decide +kernel), List.mem_of_getElem? (i := 1746) (by decide +kernel), List.mem_of_getElem? (i := 1747) (by decide +kernel)⟩
theorem lw_p88 : lw_okq (⟨"ScaleForgeModel", "fitBy", "()I"⟩, 56) := ⟨⟨by decide +kernel, by decide +kernel⟩, List.mem_of_getElem? (i := 1281) (by decide +kernel), List.mem_of_getElem? (i := 1750) (by decide +kernel), List.mem_of_getElem? (i := 1751) (by decide +kernel)⟩
theorem lw_p89 : lw_okq (⟨"ScaleForgeModel", "varietyOf", "(I)I"⟩, 56) := ⟨⟨by decide +kernel, by decide +kernel⟩, List.mem_of_getElem? (i := 1281) (by decide +kernel), List.mem_of_getElem? (i := 1762) (by decide +kernel), List.mem_of_getElem? (i := 1763) (by decide +kernel)⟩
theorem lw_p90 : lw_okq (⟨"ScaleForgeModel", "wellFormed", "(I)I"⟩, 56) := ⟨⟨by decide +kernel, by decide +kernel⟩, List.mem_of_getElem? (i := 1281) (by decide +kernel), List.mem_of_getElem? (i := 1774) (by decide +kernel), List.mem_of_getElem? (i := 1775) (by decide +kernel)⟩
theorem lw_p91 : lw_okq (⟨"ScaleForgeModel", "areAlike", "(II)Z"⟩, 56) := ⟨⟨by decide +kernel, by decide +kernel⟩, List.mem_of_getElem? (i := 1281) (by decide +kernel), List.mem_of_getElem? (i := 1786) (by decide +kernel), List.mem_of_getElem? (i := 1787) (by decide +kernel)⟩
theorem lw_p92 : lw_okq (⟨"ScaleForgeModel", "brightnessOf", "(I)I"⟩, 56) := ⟨⟨by decide +kernel, by decide +kernel⟩, List.mem_of_getElem? (i := 1281) (by decide +kernel), List.mem_of_getElem? (i := 1798) (by decide +kernel), List.mem_of_getElem? (i := 1799) (by decide +kernel)⟩
theorem lw_p93 : lw_okq (⟨"ScaleForgeModel", "nominalOf", "(I)I"⟩, 56) := ⟨⟨by decide +kernel, by decide +kernel⟩, List.mem_of_getElem? (i := 1281) (by decide +kernel), List.mem_of_getElem? (i := 1810) (by decide +kernel), List.mem_of_getElem? (i := 1811) (by decide +kernel)⟩
theorem lw_p94 : lw_okq (⟨"ScaleForgeModel", "sharpsOf", "(I)I"⟩, 56) := ⟨⟨by decide +kernel, by decide +kernel⟩, List.mem_of_getElem? (i := 1281) (by decide +kernel), List.mem_of_getElem? (i := 1818) (by decide +kernel), List.mem_of_getElem? (i := 1819) (by decide +kernel)⟩
theorem lw_p95 : lw_okq (⟨"ScaleForgeModel", "laysNames", "(I)V"⟩, 56) := ⟨⟨by decide +kernel, by decide +kernel⟩, List.mem_of_getElem? (i := 1281) (by decide +kernel), List.mem_of_getElem? (i := 1832) (by decide +kernel), List.mem_of_getElem? (i := 1833) (by decide +kernel)⟩
def lw_privs_6 : List (MethodName × Nat) := [(⟨"ScaleForgeModel", "spanOf", "(II)I"⟩, 56), (⟨"ScaleForgeModel", "isSize", "(I)Z"⟩, 56), (⟨"ScaleForgeModel", "sizeCount", "(I)I"⟩, 56), (⟨"ScaleForgeModel", "presses", "(I)Z"⟩, 56), (⟨"ScaleForgeModel", "lifts", "(I)Z"⟩, 56), (⟨"ScaleForgeModel", "keeps", "(I)V"⟩, 56), (⟨"ScaleForgeModel", "fitNow", "()I"⟩, 56), (⟨"ScaleForgeModel", "laysChain", "(II)V"⟩, 56), (⟨"ScaleForgeModel", "fitBy", "()I"⟩, 56), (⟨"ScaleForgeModel", "varietyOf", "(I)I"⟩, 56), (⟨"ScaleForgeModel", "wellFormed", "(I)I"⟩, 56), (⟨"ScaleForgeModel", "areAlike", "(II)Z"⟩, 56), (⟨"ScaleForgeModel", "brightnessOf", "(I)I"⟩, 56), (⟨"ScaleForgeModel", "nominalOf", "(I)I"⟩, 56), (⟨"ScaleForgeModel", "sharpsOf", "(I)I"⟩, 56), (⟨"ScaleForgeModel", "laysNames", "(I)V"⟩, 56)]
theorem lw_r6 : ∀ q ∈ lw_privs_6, lw_okq q := List.forall_mem_cons.mpr ⟨lw_p80, List.forall_mem_cons.mpr ⟨lw_p81, List.forall_mem_cons.mpr ⟨lw_p82, List.forall_mem_cons.mpr ⟨lw_p83, List.forall_mem_cons.mpr ⟨lw_p84, List.forall_mem_cons.mpr ⟨lw_p85, List.forall_mem_cons.mpr ⟨lw_p86, List.forall_mem_cons.mpr ⟨lw_p87, List.forall_mem_cons.mpr ⟨lw_p88, List.forall_mem_cons.mpr ⟨lw_p89, List.forall_mem_cons.mpr ⟨lw_p90, List.forall_mem_cons.mpr ⟨lw_p91, List.forall_mem_cons.mpr ⟨lw_p92, List.forall_mem_cons.mpr ⟨lw_p93, List.forall_mem_cons.mpr ⟨lw_p94, List.forall_mem_cons.mpr ⟨lw_p95, fun _ h => absurd h List.not_mem_nil⟩⟩⟩⟩⟩⟩⟩⟩⟩⟩⟩⟩⟩⟩⟩⟩
theorem lw_p96 : lw_okq (⟨"ScaleForgeModel", "toneOfKey", "(I)I"⟩, 56) := ⟨⟨by decide +kernel, by decide +kernel⟩, List.mem_of_getElem? (i := 1281) (by decide +kernel), List.mem_of_getElem? (i := 1847) (by decide +kernel), List.mem_of_getElem? (i := 1848) (by decide +kernel)⟩
theorem lw_p97 : lw_okq (⟨"ScaleForgeModel", "bestKey", "(I)I"⟩, 56) := ⟨⟨by decide +kernel, by decide +kernel⟩, List.mem_of_getElem? (i := 1281) (by decide +kernel), List.mem_of_getElem? (i := 1859) (by decide +kernel), List.mem_of_getElem? (i := 1860) (by decide +kernel)⟩
theorem lw_p98 : lw_okq (⟨"ScaleForgeModel", "laysWay", "()Z"⟩, 56) := ⟨⟨by decide +kernel, by decide +kernel⟩, List.mem_of_getElem? (i := 1281) (by decide +kernel), List.mem_of_getElem? (i := 1887) (by decide +kernel), List.mem_of_getElem? (i := 1888) (by decide +kernel)⟩
theorem lw_p99 : lw_okq (⟨"ScaleForgeModel", "arrives", "()V"⟩, 56) := ⟨⟨by decide +kernel, by decide +kernel⟩, List.mem_of_getElem? (i := 1281) (by decide +kernel), List.mem_of_getElem? (i := 1891) (by decide +kernel), List.mem_of_getElem? (i := 1892) (by decide +kernel)⟩
theorem lw_p100 : lw_okq (⟨"ScaleForgeModel", "apart", "(II)I"⟩, 56) := ⟨⟨by decide +kernel, by decide +kernel⟩, List.mem_of_getElem? (i := 1281) (by decide +kernel), List.mem_of_getElem? (i := 1895) (by decide +kernel), List.mem_of_getElem? (i := 1896) (by decide +kernel)⟩
theorem lw_p101 : lw_okq (⟨"ScaleForgeModel", "laysGuesses", "()I"⟩, 56) := ⟨⟨by decide +kernel, by decide +kernel⟩, List.mem_of_getElem? (i := 1281) (by decide +kernel), List.mem_of_getElem? (i := 1912) (by decide +kernel), List.mem_of_getElem? (i := 1913) (by decide +kernel)⟩
theorem lw_p102 : lw_okq (⟨"ScaleForgeModel", "laysConvergents", "()I"⟩, 56) := ⟨⟨by decide +kernel, by decide +kernel⟩, List.mem_of_getElem? (i := 1281) (by decide +kernel), List.mem_of_getElem? (i := 1929) (by decide +kernel), List.mem_of_getElem? (i := 1930) (by decide +kernel)⟩
theorem lw_p103 : lw_okq (⟨"ScaleForgeModel", "tellsBy", "(JJ)Z"⟩, 56) := ⟨⟨by decide +kernel, by decide +kernel⟩, List.mem_of_getElem? (i := 1281) (by decide +kernel), List.mem_of_getElem? (i := 1937) (by decide +kernel), List.mem_of_getElem? (i := 1938) (by decide +kernel)⟩
theorem lw_p104 : lw_okq (⟨"ScaleForgeModel", "areBeside", "(II)Z"⟩, 56) := ⟨⟨by decide +kernel, by decide +kernel⟩, List.mem_of_getElem? (i := 1281) (by decide +kernel), List.mem_of_getElem? (i := 1963) (by decide +kernel), List.mem_of_getElem? (i := 1964) (by decide +kernel)⟩
theorem lw_p105 : lw_okq (⟨"ScaleForgeModel", "lives", "(I)V"⟩, 56) := ⟨⟨by decide +kernel, by decide +kernel⟩, List.mem_of_getElem? (i := 1281) (by decide +kernel), List.mem_of_getElem? (i := 1972) (by decide +kernel), List.mem_of_getElem? (i := 1973) (by decide +kernel)⟩
theorem lw_p106 : lw_okq (⟨"ScaleForgeModel", "does", "(I)Z"⟩, 56) := ⟨⟨by decide +kernel, by decide +kernel⟩, List.mem_of_getElem? (i := 1281) (by decide +kernel), List.mem_of_getElem? (i := 1976) (by decide +kernel), List.mem_of_getElem? (i := 1977) (by decide +kernel)⟩
theorem lw_p107 : lw_okq (⟨"ScaleForgeModel", "ranIf", "(IZ)Z"⟩, 56) := ⟨⟨by decide +kernel, by decide +kernel⟩, List.mem_of_getElem? (i := 1281) (by decide +kernel), List.mem_of_getElem? (i := 1980) (by decide +kernel), List.mem_of_getElem? (i := 1981) (by decide +kernel)⟩
theorem lw_p108 : lw_okq (⟨"ScaleForgeModel", "roots", "(I)Z"⟩, 56) := ⟨⟨by decide +kernel, by decide +kernel⟩, List.mem_of_getElem? (i := 1281) (by decide +kernel), List.mem_of_getElem? (i := 1984) (by decide +kernel), List.mem_of_getElem? (i := 1985) (by decide +kernel)⟩
theorem lw_p109 : lw_okq (⟨"ScaleForgeModel", "holdsOn", "(I)Z"⟩, 56) := ⟨⟨by decide +kernel, by decide +kernel⟩, List.mem_of_getElem? (i := 1281) (by decide +kernel), List.mem_of_getElem? (i := 1988) (by decide +kernel), List.mem_of_getElem? (i := 1989) (by decide +kernel)⟩
theorem lw_p110 : lw_okq (⟨"ScaleForgeModel", "doesAny", "()Z"⟩, 56) := ⟨⟨by decide +kernel, by decide +kernel⟩, List.mem_of_getElem? (i := 1281) (by decide +kernel), List.mem_of_getElem? (i := 1992) (by decide +kernel), List.mem_of_getElem? (i := 1993) (by decide +kernel)⟩
theorem lw_p111 : lw_okq (⟨"ScaleForgeModel", "draw", "(I)I"⟩, 56) := ⟨⟨by decide +kernel, by decide +kernel⟩, List.mem_of_getElem? (i := 1281) (by decide +kernel), List.mem_of_getElem? (i := 1996) (by decide +kernel), List.mem_of_getElem? (i := 1997) (by decide +kernel)⟩
def lw_privs_7 : List (MethodName × Nat) := [(⟨"ScaleForgeModel", "toneOfKey", "(I)I"⟩, 56), (⟨"ScaleForgeModel", "bestKey", "(I)I"⟩, 56), (⟨"ScaleForgeModel", "laysWay", "()Z"⟩, 56), (⟨"ScaleForgeModel", "arrives", "()V"⟩, 56), (⟨"ScaleForgeModel", "apart", "(II)I"⟩, 56), (⟨"ScaleForgeModel", "laysGuesses", "()I"⟩, 56), (⟨"ScaleForgeModel", "laysConvergents", "()I"⟩, 56), (⟨"ScaleForgeModel", "tellsBy", "(JJ)Z"⟩, 56), (⟨"ScaleForgeModel", "areBeside", "(II)Z"⟩, 56), (⟨"ScaleForgeModel", "lives", "(I)V"⟩, 56), (⟨"ScaleForgeModel", "does", "(I)Z"⟩, 56), (⟨"ScaleForgeModel", "ranIf", "(IZ)Z"⟩, 56), (⟨"ScaleForgeModel", "roots", "(I)Z"⟩, 56), (⟨"ScaleForgeModel", "holdsOn", "(I)Z"⟩, 56), (⟨"ScaleForgeModel", "doesAny", "()Z"⟩, 56), (⟨"ScaleForgeModel", "draw", "(I)I"⟩, 56)]
theorem lw_r7 : ∀ q ∈ lw_privs_7, lw_okq q := List.forall_mem_cons.mpr ⟨lw_p96, List.forall_mem_cons.mpr ⟨lw_p97, List.forall_mem_cons.mpr ⟨lw_p98, List.forall_mem_cons.mpr ⟨lw_p99, List.forall_mem_cons.mpr ⟨lw_p100, List.forall_mem_cons.mpr ⟨lw_p101, List.forall_mem_cons.mpr ⟨lw_p102, List.forall_mem_cons.mpr ⟨lw_p103, List.forall_mem_cons.mpr ⟨lw_p104, List.forall_mem_cons.mpr ⟨lw_p105, List.forall_mem_cons.mpr ⟨lw_p106, List.forall_mem_cons.mpr ⟨lw_p107, List.forall_mem_cons.mpr ⟨lw_p108, List.forall_mem_cons.mpr ⟨lw_p109, List.forall_mem_cons.mpr ⟨lw_p110, List.forall_mem_cons.mpr ⟨lw_p111, fun _ h => absurd h List.not_mem_nil⟩⟩⟩⟩⟩⟩⟩⟩⟩⟩⟩⟩⟩⟩⟩⟩
theorem lw_p112 : lw_okq (⟨"ScaleForgeModel", "behind", "(IZ)I"⟩, 56) := ⟨⟨by decide +kernel, by decide +kernel⟩, List.mem_of_getElem? (i := 1281) (by decide +kernel), List.mem_of_getElem? (i := 2001) (by decide +kernel), List.mem_of_getElem? (i := 2002) (by decide +kernel)⟩
theorem lw_p113 : lw_okq (⟨"ScaleForgeModel", "behindEnds", "(I)I"⟩, 56) := ⟨⟨by decide +kernel, by decide +kernel⟩, List.mem_of_getElem? (i := 1281) (by decide +kernel), List.mem_of_getElem? (i := 2005) (by decide +kernel), List.mem_of_getElem? (i := 2006) (by decide +kernel)⟩
theorem lw_p114 : lw_okq (⟨"ScaleForgeModel", "letsGo", "()V"⟩, 56) := ⟨⟨by decide +kernel, by decide +kernel⟩, List.mem_of_getElem? (i := 1281) (by decide +kernel), List.mem_of_getElem? (i := 2009) (by decide +kernel), List.mem_of_getElem? (i := 2010) (by decide +kernel)⟩
theorem lw_p115 : lw_okq (⟨"ScaleForgeModel", "holds", "(I)Z"⟩, 56) := ⟨⟨by decide +kernel, by decide +kernel⟩, List.mem_of_getElem? (i := 1281) (by decide +kernel), List.mem_of_getElem? (i := 2013) (by decide +kernel), List.mem_of_getElem? (i := 2014) (by decide +kernel)⟩
theorem lw_p116 : lw_okq (⟨"ScaleForgeModel", "brings", "(I)V"⟩, 56) := ⟨⟨by decide +kernel, by decide +kernel⟩, List.mem_of_getElem? (i := 1281) (by decide +kernel), List.mem_of_getElem? (i := 2030) (by decide +kernel), List.mem_of_getElem? (i := 2031) (by decide +kernel)⟩
theorem lw_p117 : lw_okq (⟨"ScaleForgeModel", "copies", "(II)V"⟩, 56) := ⟨⟨by decide +kernel, by decide +kernel⟩, List.mem_of_getElem? (i := 1281) (by decide +kernel), List.mem_of_getElem? (i := 2038) (by decide +kernel), List.mem_of_getElem? (i := 2039) (by decide +kernel)⟩
def lw_privs_8 : List (MethodName × Nat) := [(⟨"ScaleForgeModel", "behind", "(IZ)I"⟩, 56), (⟨"ScaleForgeModel", "behindEnds", "(I)I"⟩, 56), (⟨"ScaleForgeModel", "letsGo", "()V"⟩, 56), (⟨"ScaleForgeModel", "holds", "(I)Z"⟩, 56), (⟨"ScaleForgeModel", "brings", "(I)V"⟩, 56), (⟨"ScaleForgeModel", "copies", "(II)V"⟩, 56)]
theorem lw_r8 : ∀ q ∈ lw_privs_8, lw_okq q := List.forall_mem_cons.mpr ⟨lw_p112, List.forall_mem_cons.mpr ⟨lw_p113, List.forall_mem_cons.mpr ⟨lw_p114, List.forall_mem_cons.mpr ⟨lw_p115, List.forall_mem_cons.mpr ⟨lw_p116, List.forall_mem_cons.mpr ⟨lw_p117, fun _ h => absurd h List.not_mem_nil⟩⟩⟩⟩⟩⟩
def lw_privs : List (MethodName × Nat) := lw_privs_1 ++ (lw_privs_2 ++ (lw_privs_3 ++ (lw_privs_4 ++ (lw_privs_5 ++ (lw_privs_6 ++ (lw_privs_7 ++ (lw_privs_8)))))))
def lw_tbl : List Cond := k2_sels lw_privs ++ tables_1
theorem lw_privs_ok : ∀ q ∈ lw_privs, lw_okq q := by
  show ∀ q ∈ lw_privs_1 ++ (lw_privs_2 ++ (lw_privs_3 ++ (lw_privs_4 ++ (lw_privs_5 ++ (lw_privs_6 ++ (lw_privs_7 ++ (lw_privs_8))))))), lw_okq q
  exact List.forall_mem_append.mpr ⟨lw_r1, List.forall_mem_append.mpr ⟨lw_r2, List.forall_mem_append.mpr ⟨lw_r3, List.forall_mem_append.mpr ⟨lw_r4, List.forall_mem_append.mpr ⟨lw_r5, List.forall_mem_append.mpr ⟨lw_r6, List.forall_mem_append.mpr ⟨lw_r7, lw_r8⟩⟩⟩⟩⟩⟩⟩
end
section
/-! A small machine: values are the machine's, but .ref k names the k-th cell of the world (k < 1000000) or an outer cell; the heap is a row of shapes (kind, size) and three tables of contents. Its runs are runs of the machine (part 04). -/
abbrev ij_M : Type := (Nat → Nat → Int32) × (Nat → Nat → Int64) × (Nat → Nat → Option Nat)
abbrev ij_H : Type := List (Nat × Nat) × ij_M
abbrev ij_L : Type := List (Option Value)
abbrev ij_E : Type := Instr × Nat × Nat × Nat × Nat
abbrev ij_X : Type := Nat → Option (Nat × Nat × (Nat → Int32))
def ij_ui (f : Nat → Nat → Int32) (j k : Nat) (v : Int32) : Nat → Nat → Int32 := fun a => if a = j then upd (f j) k v else f a
def ij_ul (f : Nat → Nat → Int64) (j k : Nat) (v : Int64) : Nat → Nat → Int64 := fun a => if a = j then vp_updL (f j) k v else f a
def ij_ur (f : Nat → Nat → Option Nat) (j k : Nat) (v : Option Nat) : Nat → Nat → Option Nat := fun a => if a = j then va_up (f j) k v else f a
def ij_row {α : Type} (f : Nat → Nat → α) (j : Nat) (r : Nat → α) : Nat → Nat → α := fun a => if a = j then r else f a
/-! locals -/
def ij_kill (ls : ij_L) (i : Nat) : ij_L := match i with
  | 0 => ls
  | j + 1 => match ls[j]? with
    | some (some (.long _)) => ls.set j none
    | some (some (.double _)) => ls.set j none
    | _ => ls
def ij_st1 (ls : ij_L) (i : Nat) (v : Value) : Option ij_L := if i < ls.length then some ((ij_kill ls i).set i (some v)) else none
def ij_st2 (ls : ij_L) (i : Nat) (v : Value) : Option ij_L := if i + 1 < ls.length then some (((ij_kill ls i).set (i + 1) none).set i (some v)) else none
def ij_ldi (ls : ij_L) (st : List Value) (i : Nat) : Option (ij_L × List Value) := match ls[i]? with
  | some (some (.int x)) => some (ls, .int x :: st)
  | _ => none
def ij_ldl (ls : ij_L) (st : List Value) (i : Nat) : Option (ij_L × List Value) := match ls[i]? with
  | some (some (.long x)) => some (ls, .long x :: st)
  | _ => none
def ij_lda (ls : ij_L) (st : List Value) (i : Nat) : Option (ij_L × List Value) := match ls[i]? with
  | some (some (.ref x)) => if x = 1999999 then none else some (ls, .ref x :: st)
  | some (some .null) => some (ls, .null :: st)
  | _ => none
def ij_sti (ls : ij_L) (st : List Value) (i : Nat) : Option (ij_L × List Value) := match st with
  | .int x :: r => (ij_st1 ls i (.int x)).map (fun l => (l, r))
  | _ => none
def ij_stl (ls : ij_L) (st : List Value) (i : Nat) : Option (ij_L × List Value) := match st with
  | .long x :: r => (ij_st2 ls i (.long x)).map (fun l => (l, r))
  | _ => none
def ij_sta (ls : ij_L) (st : List Value) (i : Nat) : Option (ij_L × List Value) := match st with
  | .ref x :: r => if x = 1999999 then none else (ij_st1 ls i (.ref x)).map (fun l => (l, r))
  | .null :: r => (ij_st1 ls i .null).map (fun l => (l, r))
  | _ => none
/-- constants, loads, stores -/
def ij_sL (i : Instr) (ls : ij_L) (st : List Value) : Option (ij_L × List Value) := match i with
  | .iconst n => some (ls, .int (Int32.ofInt n) :: st)
  | .bipush n => some (ls, .int (Int8.ofInt n).toInt32 :: st)
  | .sipush n => some (ls, .int (Int16.ofInt n).toInt32 :: st)
  | .lconst n => some (ls, .long (Int64.ofNat (n : Nat)) :: st)
  | .aconst_null => some (ls, .null :: st)
  | .iload k => ij_ldi ls st k
  | .iload_n k => ij_ldi ls st k
  | .lload k => ij_ldl ls st k
  | .lload_n k => ij_ldl ls st k
  | .aload k => ij_lda ls st k
  | .aload_n k => ij_lda ls st k
  | .istore k => ij_sti ls st k
  | .istore_n k => ij_sti ls st k
  | .lstore k => ij_stl ls st k
  | .lstore_n k => ij_stl ls st k
  | .astore k => ij_sta ls st k
  | .astore_n k => ij_sta ls st k
  | .iinc k n => match ls[k]? with
    | some (some (.int x)) => (ij_st1 ls k (.int (x + Int32.ofInt n))).map (fun l => (l, st))
    | _ => none
  | _ => none
/-- arithmetic on ints -/
def ij_sA (i : Instr) (st : List Value) : Option (List Value) := match st with
  | .int y :: .int x :: r => (match i with
    | .iadd => some (.int (x + y) :: r)
    | .isub => some (.int (x - y) :: r)
    | .imul => some (.int (x * y) :: r)
    | .iand => some (.int (x &&& y) :: r)
    | .ior => some (.int (x ||| y) :: r)
    | .ixor => some (.int (x ^^^ y) :: r)
    | .idiv => if y = 0 then none else some (.int (x / y) :: r)
    | .irem => if y = 0 then none else some (.int (x - x / y * y) :: r)
    | .ishl => some (.int (x <<< (y &&& 31)) :: r)
    | .ishr => some (.int (x >>> (y &&& 31)) :: r)
    | _ => none)
  | _ => none
/-- arithmetic on longs, conversions, the stack -/
def ij_sB (i : Instr) (st : List Value) : Option (List Value) := match i with
  | .ladd => (match st with
    | .long y :: .long x :: r => some (.long (x + y) :: r)
    | _ => none)
  | .lsub => (match st with
    | .long y :: .long x :: r => some (.long (x - y) :: r)
    | _ => none)
  | .lmul => (match st with
    | .long y :: .long x :: r => some (.long (x * y) :: r)
    | _ => none)
  | .land => (match st with
    | .long y :: .long x :: r => some (.long (x &&& y) :: r)
    | _ => none)
  | .lor => (match st with
    | .long y :: .long x :: r => some (.long (x ||| y) :: r)
    | _ => none)
  | .lxor => (match st with
    | .long y :: .long x :: r => some (.long (x ^^^ y) :: r)
    | _ => none)
  | .ldiv => (match st with
    | .long y :: .long x :: r => if y = 0 then none else some (.long (x / y) :: r)
    | _ => none)
  | .lrem => (match st with
    | .long y :: .long x :: r => if y = 0 then none else some (.long (x - x / y * y) :: r)
    | _ => none)
  | .lcmp => (match st with
    | .long y :: .long x :: r => some (.int (lg_cmp x y) :: r)
    | _ => none)
  | .lshl => (match st with
    | .int y :: .long x :: r => some (.long (x <<< (y.toInt64 &&& 63)) :: r)
    | _ => none)
  | .lushr => (match st with
    | .int y :: .long x :: r => some (.long (x.toUInt64 >>> (y.toInt64.toUInt64 &&& Int64.toUInt64 63)).toInt64 :: r)
    | _ => none)
  | .ineg => (match st with
    | .int x :: r => some (.int (-x) :: r)
    | _ => none)
  | .i2l => (match st with
    | .int x :: r => some (.long x.toInt64 :: r)
    | _ => none)
  | .i2b => (match st with
    | .int x :: r => some (.int x.toInt8.toInt32 :: r)
    | _ => none)
  | .i2s => (match st with
    | .int x :: r => some (.int x.toInt16.toInt32 :: r)
    | _ => none)
  | .i2c => (match st with
    | .int x :: r => some (.int (x.toUInt32 % 65536).toInt32 :: r)
    | _ => none)
  | .l2i => (match st with
    | .long x :: r => some (.int x.toInt32 :: r)
    | _ => none)
  | .dup => (match st with
    | .int x :: r => some (.int x :: .int x :: r)
    | .ref x :: r => some (.ref x :: .ref x :: r)
    | _ => none)
  | .dup2 => (match st with
    | .int y :: .ref x :: r => some (.int y :: .ref x :: .int y :: .ref x :: r)
    | _ => none)
  | .pop => (match st with
    | .int _ :: r => some r
    | _ => none)
  | _ => none
/-- jumps: the next place, and the stack -/
def ij_tg (pc : Nat) (off : Int) : Nat := ((pc : Int) + off).toNat
def ij_bI (i : Instr) (pc : Nat) (st : List Value) : Option (Nat × List Value) := match i with
  | .goto o => some (ij_tg pc o, st)
  | .ifCond k o => (match st with
    | .int x :: r => (match k with
      | .eq => some (if x = 0 then ij_tg pc o else pc + 3, r)
      | .ne => some (if x = 0 then pc + 3 else ij_tg pc o, r)
      | .lt => some (if x < 0 then ij_tg pc o else pc + 3, r)
      | .ge => some (if 0 ≤ x then ij_tg pc o else pc + 3, r)
      | .gt => some (if 0 < x then ij_tg pc o else pc + 3, r)
      | .le => some (if x ≤ 0 then ij_tg pc o else pc + 3, r))
    | _ => none)
  | .if_icmp k o => (match st with
    | .int y :: .int x :: r => (match k with
      | .eq => some (if x = y then ij_tg pc o else pc + 3, r)
      | .ne => some (if x = y then pc + 3 else ij_tg pc o, r)
      | .lt => some (if x < y then ij_tg pc o else pc + 3, r)
      | .ge => some (if y ≤ x then ij_tg pc o else pc + 3, r)
      | .gt => some (if y < x then ij_tg pc o else pc + 3, r)
      | .le => some (if x ≤ y then ij_tg pc o else pc + 3, r))
    | _ => none)
  | .ifnull o => (match st with
    | .ref x :: r => if x = 1999999 then none else some (pc + 3, r)
    | .null :: r => some (ij_tg pc o, r)
    | _ => none)
  | .ifnonnull o => (match st with
    | .ref x :: r => if x = 1999999 then none else some (ij_tg pc o, r)
    | .null :: r => some (pc + 3, r)
    | _ => none)
  | .tableswitch d lo hi os => (match st with
    | .int x :: r => if x.toInt < lo ∨ hi < x.toInt then some (ij_tg pc d, r) else (match os[(x.toInt - lo).toNat]? with
      | some o => some (ij_tg pc o, r)
      | none => none)
    | _ => none)
  | _ => none
/-- is this jump within bounds -/
def ij_jok (pc : Nat) (i : Instr) : Bool := match i with
  | .goto o => decide (0 ≤ (pc : Int) + o)
  | .ifCond _ o => decide (0 ≤ (pc : Int) + o)
  | .if_icmp _ o => decide (0 ≤ (pc : Int) + o)
  | .ifnull o => decide (0 ≤ (pc : Int) + o)
  | .ifnonnull o => decide (0 ≤ (pc : Int) + o)
  | .tableswitch d _ _ os => decide (0 ≤ (pc : Int) + d) && os.toList.all (fun o => decide (0 ≤ (pc : Int) + o))
  | _ => true
/-! the heap. Kinds: below 100 an object of that class; 100 int[], 101 long[], 102 byte[], 103 boolean[], 104 .. arrays of objects of the classes 8, 4, 6. -/
/-- of a class's field: 0 an int, 1 a long, 2 a reference, 3 a boolean -/
def ij_fk (tt : Nat → Nat → Nat) (ci k : Nat) : Nat := tt ci k
def ij_rv (o : Option Nat) : Option Value := match o with
  | none => some .null
  | some x => if x < 1000000 then some (.ref x) else none
def ij_fv (t : Nat) (m : ij_M) (j k : Nat) : Option Value := match t with
  | 1 => some (.long (m.2.1 j k))
  | 2 => ij_rv (m.2.2 j k)
  | _ => some (.int (m.1 j k))
def ij_put (t : Nat) (m : ij_M) (j k : Nat) (v : Value) : Option ij_M := match t, v with
  | 0, .int x => some (ij_ui m.1 j k x, m.2.1, m.2.2)
  | 1, .long x => some (m.1, ij_ul m.2.1 j k x, m.2.2)
  | 2, .ref x => if x < 1000000 then some (m.1, m.2.1, ij_ur m.2.2 j k (some x)) else none
  | 3, .int x => if x = 0 ∨ x = 1 then some (ij_ui m.1 j k x, m.2.1, m.2.2) else none
  | _, _ => none
def ij_new (h : ij_H) (kd n : Nat) : ij_H := (h.1 ++ [(kd, n)], ij_row h.2.1 h.1.length (fun _ => 0), ij_row h.2.2.1 h.1.length (fun _ => 0), ij_row h.2.2.2 h.1.length (fun _ => none))
def ij_akind (t : ArrayType) : Nat := match t with
  | .int => 100
  | .long => 101
  | .byte => 102
  | .boolean => 103
  | _ => 0
def ij_ecl (kd : Nat) : Nat := match kd with
  | 104 => 8
  | 105 => 4
  | _ => 6
/-- reads: arrays, fields, statics, constants that stand in the tables -/
def ij_hR (tt : Nat → Nat → Nat) (xt : ij_X) (i : Instr) (a b : Nat) (st : List Value) (h : ij_H) : Option (List Value) := match i with
  | .getfield _ => (match st with
    | .ref j :: r => if j < 1000000 then (match h.1[j]? with
        | some (kd, n) => if kd = a ∧ a < 100 ∧ b < n then (ij_fv (tt a b) h.2 j b).map (fun v => v :: r) else none
        | none => none)
      else if 1000010 ≤ j ∧ j < 1000034 ∧ a = 114 then (match b with
        | 0 => some (.ref (j + 50) :: r)
        | 1 => some (.int 0 :: r)
        | _ => none)
      else none
    | _ => none)
  | .iaload => (match st with
    | .int i :: .ref j :: r => if j < 1000000 then (match h.1[j]? with
        | some (100, n) => if i < 0 ∨ n ≤ i.toNatClampNeg then none else some (.int (h.2.1 j i.toNatClampNeg) :: r)
        | _ => none)
      else (match xt j with
        | some (100, n, f) => if i < 0 ∨ n ≤ i.toNatClampNeg then none else some (.int (f i.toNatClampNeg) :: r)
        | _ => none)
    | _ => none)
  | .baload => (match st with
    | .int i :: .ref j :: r => if j < 1000000 then (match h.1[j]? with
        | some (102, n) => if i < 0 ∨ n ≤ i.toNatClampNeg then none else some (.int (h.2.1 j i.toNatClampNeg) :: r)
        | some (103, n) => if i < 0 ∨ n ≤ i.toNatClampNeg then none else some (.int (h.2.1 j i.toNatClampNeg) :: r)
        | _ => none)
      else (match xt j with
        | some (102, n, f) => if i < 0 ∨ n ≤ i.toNatClampNeg then none else some (.int (f i.toNatClampNeg) :: r)
        | _ => none)
    | _ => none)
  | .laload => (match st with
    | .int i :: .ref j :: r => if j < 1000000 then (match h.1[j]? with
        | some (101, n) => if i < 0 ∨ n ≤ i.toNatClampNeg then none else some (.long (h.2.2.1 j i.toNatClampNeg) :: r)
        | _ => none)
      else none
    | _ => none)
  | .aaload => (match st with
    | .int i :: .ref j :: r => if j < 1000000 then (match h.1[j]? with
        | some (kd, n) => if kd < 104 ∨ 106 < kd ∨ i < 0 ∨ n ≤ i.toNatClampNeg then none else (ij_rv (h.2.2.2 j i.toNatClampNeg)).map (fun v => v :: r)
        | none => none)
      else none
    | _ => none)
  | .arraylength => (match st with
    | .ref j :: r => if j < 1000000 then (match h.1[j]? with
        | some (kd, n) => if kd < 100 ∨ 106 < kd then none else some (.int (Int32.ofNat n) :: r)
        | none => none)
      else (match xt j with
        | some (_, n, _) => some (.int (Int32.ofNat n) :: r)
        | none => none)
    | _ => none)
  | .getstatic _ => (match a with
    | 0 => some (.ref 1000001 :: st)
    | 1 => some (.ref 1000002 :: st)
    | 2 => some (.ref 1000003 :: st)
    | 3 => some (.int 1 :: st)
    | 4 => some (.ref 1999999 :: st)
    | _ => none)
  | .ldc _ => (match a with
    | 0 => some (.int (Int32.ofNat b) :: st)
    | 1 => if b < 24 then some (.ref (1000010 + b) :: st) else none
    | _ => none)
  | .ldc_w _ => (match a with
    | 0 => some (.int (Int32.ofNat b) :: st)
    | _ => none)
  | .ldc2_w _ => some (.long (Int64.ofNat b) :: st)
  | .invokespecial _ => (match a, st with
    | 999999, .ref j :: r => if j < 1000000 ∧ (r.map fun v => v.category).sum ≤ 8 then some r else none
    | _, _ => none)
  | _ => none
/-- writes: fields, arrays, new cells, copies -/
def ij_hW (tt : Nat → Nat → Nat) (xt : ij_X) (i : Instr) (a b : Nat) (st : List Value) (h : ij_H) : Option (List Value × ij_H) := match i with
  | .putfield _ => (match st with
    | v :: .ref j :: r => if j < 1000000 then (match h.1[j]? with
        | some (kd, n) => if kd = a ∧ a < 100 ∧ b < n then (ij_put (tt a b) h.2 j b v).map (fun m => (r, h.1, m)) else none
        | none => none)
      else none
    | _ => none)
  | .iastore => (match st with
    | .int x :: .int i :: .ref j :: r => if j < 1000000 then (match h.1[j]? with
        | some (100, n) => if i < 0 ∨ n ≤ i.toNatClampNeg then none else some (r, h.1, ij_ui h.2.1 j i.toNatClampNeg x, h.2.2)
        | _ => none)
      else none
    | _ => none)
  | .bastore => (match st with
    | .int x :: .int i :: .ref j :: r => if j < 1000000 then (match h.1[j]? with
        | some (102, n) => if i < 0 ∨ n ≤ i.toNatClampNeg then none else some (r, h.1, ij_ui h.2.1 j i.toNatClampNeg (vp_nar .byte x), h.2.2)
        | some (103, n) => if i < 0 ∨ n ≤ i.toNatClampNeg then none else some (r, h.1, ij_ui h.2.1 j i.toNatClampNeg (vp_nar .boolean x), h.2.2)
        | _ => none)
      else none
    | _ => none)
  | .lastore => (match st with
    | .long x :: .int i :: .ref j :: r => if j < 1000000 then (match h.1[j]? with
        | some (101, n) => if i < 0 ∨ n ≤ i.toNatClampNeg then none else some (r, h.1, h.2.1, ij_ul h.2.2.1 j i.toNatClampNeg x, h.2.2.2)
        | _ => none)
      else none
    | _ => none)
  | .aastore => (match st with
    | .ref v :: .int i :: .ref j :: r => if j < 1000000 ∧ v < 1000000 then (match h.1[j]?, h.1[v]? with
        | some (kd, n), some (kv, _) => if kd < 104 ∨ 106 < kd ∨ ¬ kv = ij_ecl kd ∨ i < 0 ∨ n ≤ i.toNatClampNeg then none else some (r, h.1, h.2.1, h.2.2.1, ij_ur h.2.2.2 j i.toNatClampNeg (some v))
        | _, _ => none)
      else none
    | _ => none)
  | .newarray t => (match st with
    | .int n :: r => if n < 0 ∨ ij_akind t = 0 ∨ 65536 < n.toNatClampNeg ∨ 999999 < h.1.length then none else some (.ref h.1.length :: r, ij_new h (ij_akind t) n.toNatClampNeg)
    | _ => none)
  | .anewarray _ => (match st with
    | .int n :: r => if n < 0 ∨ a < 104 ∨ 106 < a ∨ 65536 < n.toNatClampNeg ∨ 999999 < h.1.length then none else some (.ref h.1.length :: r, ij_new h a n.toNatClampNeg)
    | _ => none)
  | .new _ => if a < 12 ∧ h.1.length < 1000000 then some (.ref h.1.length :: st, ij_new h a b) else none
  | .invokestatic _ => (match a, st with
    | 999998, .int n :: .int dp :: .ref d :: .int sp :: .ref s :: r =>
      if d < 1000000 ∧ ¬ sp < 0 ∧ ¬ dp < 0 ∧ ¬ n < 0 ∧ (r.map fun v => v.category).sum ≤ 8 then (match h.1[d]? with
        | some (100, n1) => if n1 < dp.toNatClampNeg + n.toNatClampNeg then none else if s < 1000000 then (match h.1[s]? with
            | some (100, n0) => if n0 < sp.toNatClampNeg + n.toNatClampNeg then none else some (r, h.1, ij_row h.2.1 d (va_cpy (h.2.1 s) (h.2.1 d) sp.toNatClampNeg dp.toNatClampNeg n.toNatClampNeg), h.2.2)
            | _ => none)
          else (match xt s with
            | some (100, n0, f) => if n0 < sp.toNatClampNeg + n.toNatClampNeg then none else some (r, h.1, ij_row h.2.1 d (va_cpy f (h.2.1 d) sp.toNatClampNeg dp.toNatClampNeg n.toNatClampNeg), h.2.2)
            | _ => none)
        | some (101, n1) => if n1 < dp.toNatClampNeg + n.toNatClampNeg then none else if s < 1000000 then (match h.1[s]? with
            | some (101, n0) => if n0 < sp.toNatClampNeg + n.toNatClampNeg then none else some (r, h.1, h.2.1, ij_row h.2.2.1 d (va_cpy (h.2.2.1 s) (h.2.2.1 d) sp.toNatClampNeg dp.toNatClampNeg n.toNatClampNeg), h.2.2.2)
            | _ => none)
          else none
        | _ => none)
      else none
    | _, _ => none)
  | _ => none
/-- ends: rt 0 void, 1 int, 2 long, 3 boolean, 4 byte, 5 char, 6 a reference -/
def ij_rI (rt : Nat) (i : Instr) (st : List Value) : Option (Option Value) := match i with
  | .return_ => (match rt, st with
    | 0, [] => some none
    | _, _ => none)
  | .ireturn => (match st with
    | [.int x] => (match rt with
      | 1 => some (some (.int x))
      | 3 => if x = 0 ∨ x = 1 then some (some (.int x)) else none
      | 4 => if narrow .byte (.int x) = .int x then some (some (.int x)) else none
      | 5 => if narrow .char (.int x) = .int x then some (some (.int x)) else none
      | _ => none)
    | _ => none)
  | .lreturn => (match rt, st with
    | 2, [.long x] => some (some (.long x))
    | _, _ => none)
  | .areturn => (match rt, st with
    | 6, [.ref x] => if x = 1999999 then none else some (some (.ref x))
    | 6, [.null] => some (some .null)
    | _, _ => none)
  | _ => none
/-- calls: kinds 1 static, 4 static of a nest mate, 2 special, 3 special of a nest mate, 10 + ci virtual on an object of the class ci, 30 virtual on a String: the arguments (the receiver first), the rest of the stack -/
def ij_cI (i : Instr) (n c : Nat) (st : List Value) (h : ij_H) : Option (List Value × List Value) := match i with
  | .invokevirtual _ => (match st[n]? with
    | some (.ref j) => if ((10 ≤ c ∧ c < 22 ∧ j < 1000000 ∧ (h.1[j]?).map Prod.fst = some (c - 10)) ∨ (c = 30 ∧ 1000010 ≤ j ∧ j < 1000034)) ∧ (((st.drop (n + 1)).map fun v => v.category).sum) ≤ 8 then some ((st.take (n + 1)).reverse, st.drop (n + 1)) else none
    | _ => none)
  | .invokestatic _ => if (c = 1 ∨ c = 4) ∧ n ≤ st.length ∧ (((st.drop n).map fun v => v.category).sum) ≤ 8 then some ((st.take n).reverse, st.drop n) else none
  | .invokespecial _ => (match st[n]? with
    | some (.ref j) => if (c = 2 ∨ c = 3) ∧ j < 1000000 ∧ (((st.drop (n + 1)).map fun v => v.category).sum) ≤ 8 then some ((st.take (n + 1)).reverse, st.drop (n + 1)) else none
    | _ => none)
  | _ => none
/-- the locals with which a method begins -/
def ij_ent : List Value → ij_L
  | [] => []
  | .long x :: r => some (.long x) :: none :: ij_ent r
  | .double x :: r => some (.double x) :: none :: ij_ent r
  | v :: r => some v :: ij_ent r
def ij_entry (nL : Nat) (as : List Value) : Option ij_L := if (ij_ent as).length ≤ nL then some (ij_ent as ++ List.replicate (nL - (ij_ent as).length) none) else none
/-- tables of a program: a method's rows, its number of locals, its kind of answer; a class's kinds of fields -/
abbrev ij_G : Type := (Nat → List (Nat × ij_E)) × (Nat → Nat) × (Nat → Nat) × (Nat → Nat → Nat)
def ij_run (G : ij_G) (xt : ij_X) : Nat → Nat → Nat → ij_L → List Value → ij_H → Option (Option Value × ij_H)
  | 0, _, _, _, _, _ => none
  | n + 1, y, pc, ls, st, h => match (G.1 y).lookup pc with
    | none => none
    | some (i, len, a, b, c) => match ij_sL i ls st with
      | some q => ij_run G xt n y (pc + len) q.1 q.2 h
      | none => match ij_sA i st with
        | some q => ij_run G xt n y (pc + len) ls q h
        | none => match ij_bI i pc st with
          | some q => ij_run G xt n y q.1 ls q.2 h
          | none => match ij_hR G.2.2.2 xt i a b st h with
            | some q => ij_run G xt n y (pc + len) ls q h
            | none => match ij_sB i st with
              | some q => ij_run G xt n y (pc + len) ls q h
              | none => match ij_hW G.2.2.2 xt i a b st h with
                | some q => ij_run G xt n y (pc + len) ls q.1 q.2
                | none => match ij_rI (G.2.2.1 y) i st with
                  | some q => some (q, h)
                  | none => match ij_cI i b c st h with
                    | some q => (match ij_entry (G.2.1 a) q.1 with
                      | some l0 => (match ij_run G xt n a 0 l0 [] h with
                        | some z => ij_run G xt n y (pc + 3) ls (z.1.toList ++ q.2) z.2
                        | none => none)
                      | none => none)
                    | none => none
end
section
/-! One step of the small machine is a step of the machine: locals, the stack, jumps. -/
abbrev ij_B : Type := Nat × (Nat → Nat) × Value
def ij_ad (B : ij_B) (k : Nat) : Nat := if k < 1000000 then B.1 + k else B.2.1 k
def ij_cv (B : ij_B) (v : Value) : Value := match v with
  | .ref k => if k = 1999999 then B.2.2 else .ref (ij_ad B k)
  | v => v
theorem ij_cv_ref (B : ij_B) {k : Nat} (h : ¬ k = 1999999) : ij_cv B (.ref k) = .ref (ij_ad B k) := if_neg h
theorem ij_ad_lt (B : ij_B) {k : Nat} (h : k < 1000000) : ij_ad B k = B.1 + k := if_pos h
theorem ij_ad_ge (B : ij_B) {k : Nat} (h : ¬ k < 1000000) : ij_ad B k = B.2.1 k := if_neg h
theorem ij_cv_cell (B : ij_B) {k : Nat} (h : k < 1000000) : ij_cv B (.ref k) = .ref (B.1 + k) := by
  rw [ij_cv_ref B (by omega), ij_ad_lt B h]
theorem ij_cv_out (B : ij_B) {k : Nat} (h : ¬ k < 1000000) (h2 : ¬ k = 1999999) : ij_cv B (.ref k) = .ref (B.2.1 k) := by
  rw [ij_cv_ref B h2, ij_ad_ge B h]
theorem ij_cv_cat (B : ij_B) (hB : B.2.2.category = 1) (v : Value) : (ij_cv B v).category = v.category := by
  cases v with
  | ref k =>
    by_cases h : k = 1999999
    · subst h; exact hB
    · rw [ij_cv_ref B h]; rfl
  | _ => rfl
theorem ij_cv_sum (B : ij_B) (hB : B.2.2.category = 1) (st : List Value) : ((st.map (ij_cv B)).map fun v => v.category).sum = (st.map fun v => v.category).sum := by
  induction st with
  | nil => rfl
  | cons v t ih => simp only [List.map_cons, List.sum_cons, ih, ij_cv_cat B hB]
/-! locals -/
def ij_al (B : ij_B) (L : ij_L) : List (Nat × Value) := (List.range L.length).filterMap (fun i => (L[i]?.join).map (fun v => (i, ij_cv B v)))
theorem ij_al_mem {B : ij_B} {L : ij_L} {q : Nat × Value} : q ∈ ij_al B L ↔ ∃ v, L[q.1]? = some (some v) ∧ q.2 = ij_cv B v := by
  constructor
  · intro h
    obtain ⟨i, -, hi⟩ := List.mem_filterMap.mp h
    obtain ⟨v, hv, rfl⟩ := Option.map_eq_some_iff.mp hi
    exact ⟨v, Option.join_eq_some_iff.mp hv, rfl⟩
  · rintro ⟨v, hv, e⟩
    refine List.mem_filterMap.mpr ⟨q.1, List.mem_range.mpr (List.getElem?_eq_some_iff.mp hv).1, ?_⟩
    rw [hv]
    show some (q.1, ij_cv B v) = some q
    rw [← e]
def ij_LH (B : ij_B) (ls : Array Slot) (nL : Nat) (L : ij_L) : Prop := L.length = nL ∧ lv_has ls nL (ij_al B L)
theorem ij_LH.at {B : ij_B} {ls : Array Slot} {nL : Nat} {L : ij_L} (h : ij_LH B ls nL L) {i : Nat} {v : Value} (hv : L[i]? = some (some v)) : ls[i]? = some (.val (ij_cv B v)) :=
  h.2.2.2 (i, ij_cv B v) (ij_al_mem.mpr ⟨v, hv, rfl⟩)
theorem ij_kill_len (L : ij_L) (i : Nat) : (ij_kill L i).length = L.length := by
  unfold ij_kill
  split
  · rfl
  · split <;> simp
theorem ij_kill_spec {L : ij_L} {i j : Nat} {w : Value} (h : (ij_kill L i)[j]? = some (some w)) : L[j]? = some (some w) ∧ ¬ (j + 1 = i ∧ w.category = 2) := by
  unfold ij_kill at h
  split at h
  · exact ⟨h, fun q => by omega⟩
  · next j' =>
    split at h
    · next x hx =>
      rw [List.getElem?_set] at h
      split at h
      · split at h <;> cases h
      · next hne => exact ⟨h, fun q => hne (by omega)⟩
    · next x hx =>
      rw [List.getElem?_set] at h
      split at h
      · split at h <;> cases h
      · next hne => exact ⟨h, fun q => hne (by omega)⟩
    · next h1 h2 =>
      refine ⟨h, fun q => ?_⟩
      obtain ⟨q1, q2⟩ := q
      have e : j = j' := by omega
      subst e
      cases w with
      | long x => exact h1 x h
      | double x => exact h2 x h
      | _ => simp [Value.category] at q2
theorem ij_LH.st1 {B : ij_B} (hB : B.2.2.category = 1) {ls' : Array Slot} {nL i : Nat} {L L' : ij_L} {v : Value} (hL : L.length = nL) (hs : ij_st1 L i v = some L')
    (h : lv_has ls' nL ((i, ij_cv B v) :: (ij_al B L).filter (fun q => !(q.1 == i) && !(q.1 + 1 == i && q.2.category == 2)))) : ij_LH B ls' nL L' := by
  unfold ij_st1 at hs
  split at hs
  · next hi =>
    cases hs
    refine ⟨by simp [ij_kill_len, hL], h.1, h.2.1, fun q hq => h.2.2 q ?_⟩
    obtain ⟨w, hw, e⟩ := ij_al_mem.mp hq
    rw [List.getElem?_set] at hw
    split at hw
    · next hqi =>
      split at hw
      · cases hw
        have : q = (i, ij_cv B v) := by rw [hqi, ← e]
        rw [this]; exact List.mem_cons_self
      · cases hw
    · next hne =>
      obtain ⟨g1, g2⟩ := ij_kill_spec hw
      refine List.mem_cons_of_mem _ (List.mem_filter.mpr ⟨ij_al_mem.mpr ⟨w, g1, e⟩, ?_⟩)
      rw [e, ij_cv_cat B hB]
      simp only [Bool.and_eq_true, Bool.not_eq_true', beq_eq_false_iff_ne, ne_eq, Bool.and_eq_false_iff]
      refine ⟨fun q => hne q.symm, ?_⟩
      by_cases g3 : q.1 + 1 = i
      · exact Or.inr (fun g4 => g2 ⟨g3, g4⟩)
      · exact Or.inl g3
  · cases hs
theorem ij_LH.st2 {B : ij_B} (hB : B.2.2.category = 1) {ls' : Array Slot} {nL i : Nat} {L L' : ij_L} {v : Value} (hL : L.length = nL) (hs : ij_st2 L i v = some L')
    (h : lv_has ls' nL ((i, ij_cv B v) :: (ij_al B L).filter (fun q => !(q.1 == i) && (!(q.1 == i + 1) && !(q.1 + 1 == i && q.2.category == 2))))) : ij_LH B ls' nL L' := by
  unfold ij_st2 at hs
  split at hs
  · next hi =>
    cases hs
    refine ⟨by simp [ij_kill_len, hL], h.1, h.2.1, fun q hq => h.2.2 q ?_⟩
    obtain ⟨w, hw, e⟩ := ij_al_mem.mp hq
    rw [List.getElem?_set] at hw
    split at hw
    · next hqi =>
      split at hw
      · cases hw
        have : q = (i, ij_cv B v) := by rw [hqi, ← e]
        rw [this]; exact List.mem_cons_self
      · cases hw
    · next hne =>
      rw [List.getElem?_set] at hw
      split at hw
      · split at hw <;> cases hw
      · next hne2 =>
        obtain ⟨g1, g2⟩ := ij_kill_spec hw
        refine List.mem_cons_of_mem _ (List.mem_filter.mpr ⟨ij_al_mem.mpr ⟨w, g1, e⟩, ?_⟩)
        rw [e, ij_cv_cat B hB]
        simp only [Bool.and_eq_true, Bool.not_eq_true', beq_eq_false_iff_ne, ne_eq, Bool.and_eq_false_iff]
        refine ⟨fun q => hne q.symm, fun q => hne2 q.symm, ?_⟩
        by_cases g3 : q.1 + 1 = i
        · exact Or.inr (fun g4 => g2 ⟨g3, g4⟩)
        · exact Or.inl g3
  · cases hs
theorem ij_st1_lt {L L' : ij_L} {i : Nat} {v : Value} (hs : ij_st1 L i v = some L') : i < L.length := by
  unfold ij_st1 at hs
  split at hs
  · next h => exact h
  · cases hs
theorem ij_st2_lt {L L' : ij_L} {i : Nat} {v : Value} (hs : ij_st2 L i v = some L') : i + 1 < L.length := by
  unfold ij_st2 at hs
  split at hs
  · next h => exact h
  · cases hs
theorem ij_ent_cons (v : Value) (r : List Value) : ij_ent (v :: r) = if v.category = 2 then some v :: none :: ij_ent r else some v :: ij_ent r := by
  cases v <;> rfl
theorem ij_ent_args (B : ij_B) (hB : B.2.2.category = 1) (as : List Value) : ∀ (k i : Nat) (v : Value), (ij_ent as)[i]? = some (some v) → (k + i, ij_cv B v) ∈ lv_args k (as.map (ij_cv B)) := by
  induction as with
  | nil => intro k i v h; simp [ij_ent] at h
  | cons a r ih =>
    intro k i v h
    rw [ij_ent_cons a r] at h
    simp only [List.map_cons, lv_args, ij_cv_cat B hB]
    by_cases hc : a.category = 2
    · rw [if_pos hc] at h ⊢
      match i, h with
      | 0, h =>
        cases h
        exact List.mem_cons_self
      | 1, h => simp at h
      | i + 2, h =>
        have := ih (k + 2) i v (by simpa using h)
        rw [show k + 2 + i = k + (i + 2) by omega] at this
        exact List.mem_cons_of_mem _ this
    · rw [if_neg hc] at h ⊢
      match i, h with
      | 0, h =>
        cases h
        exact List.mem_cons_self
      | i + 1, h =>
        have := ih (k + 1) i v (by simpa using h)
        rw [show k + 1 + i = k + (i + 1) by omega] at this
        exact List.mem_cons_of_mem _ this
theorem ij_ent_len (B : ij_B) (hB : B.2.2.category = 1) (as : List Value) : (lg_sl (as.map (ij_cv B))).length = (ij_ent as).length := by
  induction as with
  | nil => rfl
  | cons a r ih =>
    rw [ij_ent_cons a r]
    simp only [List.map_cons, lg_sl, List.flatMap_cons, ij_cv_cat B hB, List.length_append] at ih ⊢
    rw [ih]
    by_cases hc : a.category = 2
    · simp [hc]; omega
    · simp [hc]; omega
/-- the lengths of instructions -/
def ij_len (i : Instr) : Nat := match i with
  | .bipush _ | .iload _ | .lload _ | .aload _ | .istore _ | .lstore _ | .astore _ | .ldc _ | .newarray _ => 2
  | .sipush _ | .iinc _ _ | .goto _ | .ifCond _ _ | .if_icmp _ _ | .ifnull _ | .ifnonnull _ | .getfield _ | .putfield _ | .getstatic _ | .ldc_w _ | .ldc2_w _ | .invokespecial _ | .invokestatic _ | .invokevirtual _ | .new _ | .anewarray _ => 3
  | _ => 1
section IJ
variable {p : Program} {l : Launch} {e : Env} {R : Room} {s : State} {m : MethodId} {args : Array Value} {below : List Frame} {meth : Method} {c : Code} {H : Heap} {locs : List Loc} {cells slots : Nat} {Q : State → Prop}
variable {cc : ByteArray} {pc : Nat} {ls : Array Slot} {B : ij_B}
theorem ij_sA_ok (hx : p.tables.exec = Jvm.exec) (hb : c.code = cc) {i : Instr} (hd : decode cc pc = .ok (i, ij_len i)) {st st' : List Value} (h : ij_sA i st = some st')
    (k : W p l e R s m args below meth c H locs cells slots Q (F0 m (pc + ij_len i) ls (st'.map (ij_cv B)))) : W p l e R s m args below meth c H locs cells slots Q (F0 m pc ls (st.map (ij_cv B))) := by
  unfold ij_sA at h
  split at h
  · split at h
    · cases h; exact lv_iadd hx hb hd k
    · cases h; exact lv_isub hx hb hd k
    · cases h; exact lv_imul hx hb hd k
    · cases h; exact lv_iand hx hb hd k
    · cases h; exact lv_ior hx hb hd k
    · cases h; exact lv_ixor hx hb hd k
    · split at h
      · cases h
      · next hy => cases h; exact lv_idiv hx hb hd hy k
    · split at h
      · cases h
      · next hy => cases h; exact lv_irem hx hb hd hy k
    · cases h; exact lv_ishl hx hb hd k
    · cases h; exact lv_ishr hx hb hd k
    · cases h
  · cases h
theorem ij_sB_ok (hB : B.2.2.category = 1) (hx : p.tables.exec = Jvm.exec) (hb : c.code = cc) {i : Instr} (hd : decode cc pc = .ok (i, ij_len i)) {st st' : List Value} (h : ij_sB i st = some st')
    (k : W p l e R s m args below meth c H locs cells slots Q (F0 m (pc + ij_len i) ls (st'.map (ij_cv B)))) : W p l e R s m args below meth c H locs cells slots Q (F0 m pc ls (st.map (ij_cv B))) := by
  unfold ij_sB at h
  split at h
  · split at h
    · cases h; exact lv_ladd hx hb hd k
    · cases h
  · split at h
    · cases h; exact lv_lsub hx hb hd k
    · cases h
  · split at h
    · cases h; exact lv_lmul hx hb hd k
    · cases h
  · split at h
    · cases h; exact lv_land hx hb hd k
    · cases h
  · split at h
    · cases h; exact lv_lor hx hb hd k
    · cases h
  · split at h
    · cases h; exact lv_lxor hx hb hd k
    · cases h
  · split at h
    · split at h
      · cases h
      · next hy => cases h; exact lv_ldiv hx hb hd hy k
    · cases h
  · split at h
    · split at h
      · cases h
      · next hy => cases h; exact lv_lrem hx hb hd hy k
    · cases h
  · split at h
    · cases h; exact W.lcmp hx hb hd k
    · cases h
  · split at h
    · cases h; exact lv_lshl hx hb hd rfl k
    · cases h
  · split at h
    · cases h; exact lv_lushr hx hb hd rfl k
    · cases h
  · split at h
    · cases h; exact lv_ineg hx hb hd k
    · cases h
  · split at h
    · cases h; exact lv_i2l hx hb hd rfl k
    · cases h
  · split at h
    · cases h; exact lv_i2b hx hb hd rfl k
    · cases h
  · split at h
    · cases h; exact lv_i2s hx hb hd rfl k
    · cases h
  · split at h
    · cases h; exact lv_i2c hx hb hd rfl k
    · cases h
  · split at h
    · cases h; exact lv_l2i hx hb hd rfl k
    · cases h
  · split at h
    · cases h; exact lv_dup hx hb hd rfl k
    · cases h; exact lv_dup hx hb hd (by rw [ij_cv_cat B hB]; rfl) k
    · cases h
  · split at h
    · cases h; exact lv_dup2_11 hx hb hd rfl (by rw [ij_cv_cat B hB]; rfl) k
    · cases h
  · split at h
    · cases h; exact lv_pop hx hb hd rfl k
    · cases h
  · cases h
theorem ij_tg_ok {o : Int} (h : 0 ≤ (pc : Int) + o) : (pc : Int) + o = (ij_tg pc o : Int) := by
  unfold ij_tg
  omega
theorem ij_ldi_ok {L L' : ij_L} {st st' : List Value} {i nL : Nat} (hL : ij_LH B ls nL L) (h : ij_ldi L st i = some (L', st')) : ∃ x : Int32, ls[i]? = some (.val (.int x)) ∧ L' = L ∧ st' = .int x :: st := by
  unfold ij_ldi at h
  split at h
  · next x hx => cases h; exact ⟨x, hL.at hx, rfl, rfl⟩
  · cases h
theorem ij_ldl_ok {L L' : ij_L} {st st' : List Value} {i nL : Nat} (hL : ij_LH B ls nL L) (h : ij_ldl L st i = some (L', st')) : ∃ x : Int64, ls[i]? = some (.val (.long x)) ∧ L' = L ∧ st' = .long x :: st := by
  unfold ij_ldl at h
  split at h
  · next x hx => cases h; exact ⟨x, hL.at hx, rfl, rfl⟩
  · cases h
theorem ij_lda_ok {L L' : ij_L} {st st' : List Value} {i nL : Nat} (hL : ij_LH B ls nL L) (h : ij_lda L st i = some (L', st')) : L' = L ∧ ((∃ x : Nat, ls[i]? = some (.val (.ref (ij_ad B x))) ∧ ¬ x = 1999999 ∧ st' = .ref x :: st) ∨ (ls[i]? = some (.val .null) ∧ st' = .null :: st)) := by
  unfold ij_lda at h
  split at h
  · next x hx =>
    split at h
    · cases h
    · next hne =>
      cases h
      refine ⟨rfl, Or.inl ⟨x, ?_, hne, rfl⟩⟩
      have := hL.at hx
      rwa [ij_cv_ref B hne] at this
  · next hx => cases h; exact ⟨rfl, Or.inr ⟨hL.at hx, rfl⟩⟩
  · cases h
/-- loads, stores, constants -/
theorem ij_sL_ok (hB : B.2.2.category = 1) (hx : p.tables.exec = Jvm.exec) (hb : c.code = cc) {i : Instr} (hd : decode cc pc = .ok (i, ij_len i)) {nL : Nat} {L L' : ij_L} {st st' : List Value} (hL : ij_LH B ls nL L) (h : ij_sL i L st = some (L', st'))
    (k : ∀ ls' : Array Slot, ij_LH B ls' nL L' → W p l e R s m args below meth c H locs cells slots Q (F0 m (pc + ij_len i) ls' (st'.map (ij_cv B)))) : W p l e R s m args below meth c H locs cells slots Q (F0 m pc ls (st.map (ij_cv B))) := by
  unfold ij_sL at h
  split at h
  · cases h; exact lv_iconst hx hb hd rfl (k _ hL)
  · cases h; exact lv_bipush hx hb hd rfl (k _ hL)
  · cases h; exact lv_sipush hx hb hd rfl (k _ hL)
  · cases h; exact lv_lconst hx hb hd rfl (k _ hL)
  · cases h; exact lv_null hx hb hd (k _ hL)
  · obtain ⟨x, h1, rfl, rfl⟩ := ij_ldi_ok hL h; exact lv_iload hx hb hd h1 (k _ hL)
  · obtain ⟨x, h1, rfl, rfl⟩ := ij_ldi_ok hL h; exact lv_iload_n hx hb hd rfl h1 (k _ hL)
  · obtain ⟨x, h1, rfl, rfl⟩ := ij_ldl_ok hL h; exact lv_lload hx hb hd h1 (k _ hL)
  · obtain ⟨x, h1, rfl, rfl⟩ := ij_ldl_ok hL h; exact lv_lload_n hx hb hd rfl h1 (k _ hL)
  · obtain ⟨rfl, ⟨x, h1, h2, rfl⟩ | ⟨h1, rfl⟩⟩ := ij_lda_ok hL h
    · refine lv_aload hx hb hd h1 ?_
      have := k _ hL
      rwa [List.map_cons, ij_cv_ref B h2] at this
    · exact lv_aloadN hx hb hd h1 (k _ hL)
  · obtain ⟨rfl, ⟨x, h1, h2, rfl⟩ | ⟨h1, rfl⟩⟩ := ij_lda_ok hL h
    · refine lv_aload_n hx hb hd rfl h1 ?_
      have := k _ hL
      rwa [List.map_cons, ij_cv_ref B h2] at this
    · exact lv_aload_nN hx hb hd rfl h1 (k _ hL)
  · unfold ij_sti at h
    split at h
    · obtain ⟨L1, hs, e1⟩ := Option.map_eq_some_iff.mp h
      cases e1
      exact lv_istore hx hb hd hL.2 (by rw [← hL.1]; exact ij_st1_lt hs) rfl (fun ls' h' => k ls' (ij_LH.st1 hB hL.1 hs h'))
    · cases h
  · unfold ij_sti at h
    split at h
    · obtain ⟨L1, hs, e1⟩ := Option.map_eq_some_iff.mp h
      cases e1
      exact lv_istore_n hx hb hd rfl hL.2 (by rw [← hL.1]; exact ij_st1_lt hs) rfl (fun ls' h' => k ls' (ij_LH.st1 hB hL.1 hs h'))
    · cases h
  · unfold ij_stl at h
    split at h
    · obtain ⟨L1, hs, e1⟩ := Option.map_eq_some_iff.mp h
      cases e1
      exact lv_lstore hx hb hd hL.2 (by rw [← hL.1]; exact ij_st2_lt hs) rfl (fun ls' h' => k ls' (ij_LH.st2 hB hL.1 hs h'))
    · cases h
  · unfold ij_stl at h
    split at h
    · obtain ⟨L1, hs, e1⟩ := Option.map_eq_some_iff.mp h
      cases e1
      exact lv_lstore_n hx hb hd rfl hL.2 (by rw [← hL.1]; exact ij_st2_lt hs) rfl (fun ls' h' => k ls' (ij_LH.st2 hB hL.1 hs h'))
    · cases h
  · unfold ij_sta at h
    split at h
    · split at h
      · cases h
      · next x r hne =>
        obtain ⟨L1, hs, e1⟩ := Option.map_eq_some_iff.mp h
        cases e1
        rw [List.map_cons, ij_cv_ref B hne]
        exact lv_astore hx hb hd hL.2 (by rw [← hL.1]; exact ij_st1_lt hs) rfl (fun ls' h' => k ls' (ij_LH.st1 hB hL.1 hs (by rw [ij_cv_ref B hne]; exact h')))
    · obtain ⟨L1, hs, e1⟩ := Option.map_eq_some_iff.mp h
      cases e1
      exact lv_astoreN hx hb hd hL.2 (by rw [← hL.1]; exact ij_st1_lt hs) rfl (fun ls' h' => k ls' (ij_LH.st1 hB hL.1 hs h'))
    · cases h
  · unfold ij_sta at h
    split at h
    · split at h
      · cases h
      · next x r hne =>
        obtain ⟨L1, hs, e1⟩ := Option.map_eq_some_iff.mp h
        cases e1
        rw [List.map_cons, ij_cv_ref B hne]
        exact lv_astore_n hx hb hd rfl hL.2 (by rw [← hL.1]; exact ij_st1_lt hs) rfl (fun ls' h' => k ls' (ij_LH.st1 hB hL.1 hs (by rw [ij_cv_ref B hne]; exact h')))
    · obtain ⟨L1, hs, e1⟩ := Option.map_eq_some_iff.mp h
      cases e1
      exact lv_astore_nN hx hb hd rfl hL.2 (by rw [← hL.1]; exact ij_st1_lt hs) rfl (fun ls' h' => k ls' (ij_LH.st1 hB hL.1 hs h'))
    · cases h
  · split at h
    · next x hxx =>
      obtain ⟨L1, hs, e1⟩ := Option.map_eq_some_iff.mp h
      cases e1
      obtain ⟨j, hj⟩ := List.getElem?_of_mem (ij_al_mem (B := B) (L := L) (q := (_, .int x)) |>.mpr ⟨.int x, hxx, rfl⟩)
      exact lv_iinc hx hb hd hL.2 hj rfl (by rw [← hL.1]; exact ij_st1_lt hs) rfl (fun ls' h' => k ls' (ij_LH.st1 hB hL.1 hs h'))
    · cases h
  · cases h
/-- jumps -/
theorem ij_bI_ok (hx : p.tables.exec = Jvm.exec) (hb : c.code = cc) {i : Instr} {len : Nat} (hd : decode cc pc = .ok (i, len)) (hlen : len = ij_len i ∨ ∃ d lo hi os, i = .tableswitch d lo hi os) (hj : ij_jok pc i = true) {st st' : List Value} {pc' : Nat} (h : ij_bI i pc st = some (pc', st'))
    (k : W p l e R s m args below meth c H locs cells slots Q (F0 m pc' ls (st'.map (ij_cv B)))) : W p l e R s m args below meth c H locs cells slots Q (F0 m pc ls (st.map (ij_cv B))) := by
  unfold ij_bI at h
  split at h
  · rcases hlen with rfl | ⟨_, _, _, _, hh⟩
    · cases h
      exact lv_goto hx hb hd (ij_tg_ok (of_decide_eq_true hj)) k
    · cases hh
  · rcases hlen with rfl | ⟨_, _, _, _, hh⟩
    · have ht := ij_tg_ok (pc := pc) (of_decide_eq_true hj)
      split at h
      · split at h
        · cases h
          exact lv_if_eq hx hb hd ht (fun q => by rwa [if_pos q] at k) (fun q => by rwa [if_neg q] at k)
        · cases h
          exact lv_if_ne hx hb hd ht (fun q => by rwa [if_neg q] at k) (fun q => by rwa [if_pos q] at k)
        · cases h
          exact lv_if_lt hx hb hd ht (fun q => by rwa [if_pos q] at k) (fun q => by rwa [if_neg q] at k)
        · cases h
          exact lv_if_ge hx hb hd ht (fun q => by rwa [if_pos q] at k) (fun q => by rwa [if_neg q] at k)
        · cases h
          exact lv_if_gt hx hb hd ht (fun q => by rwa [if_pos q] at k) (fun q => by rwa [if_neg q] at k)
        · cases h
          exact lv_if_le hx hb hd ht (fun q => by rwa [if_pos q] at k) (fun q => by rwa [if_neg q] at k)
      · cases h
    · cases hh
  · rcases hlen with rfl | ⟨_, _, _, _, hh⟩
    · have ht := ij_tg_ok (pc := pc) (of_decide_eq_true hj)
      split at h
      · split at h
        · cases h
          exact lv_icmp_eq hx hb hd ht (fun q => by rwa [if_pos q] at k) (fun q => by rwa [if_neg q] at k)
        · cases h
          exact lv_icmp_ne hx hb hd ht (fun q => by rwa [if_neg q] at k) (fun q => by rwa [if_pos q] at k)
        · cases h
          exact lv_icmp_lt hx hb hd ht (fun q => by rwa [if_pos q] at k) (fun q => by rwa [if_neg q] at k)
        · cases h
          exact lv_icmp_ge hx hb hd ht (fun q => by rwa [if_pos q] at k) (fun q => by rwa [if_neg q] at k)
        · cases h
          exact lv_icmp_gt hx hb hd ht (fun q => by rwa [if_pos q] at k) (fun q => by rwa [if_neg q] at k)
        · cases h
          exact lv_icmp_le hx hb hd ht (fun q => by rwa [if_pos q] at k) (fun q => by rwa [if_neg q] at k)
      · cases h
    · cases hh
  · rcases hlen with rfl | ⟨_, _, _, _, hh⟩
    · have ht := ij_tg_ok (pc := pc) (of_decide_eq_true hj)
      split at h
      · split at h
        · cases h
        · next x r hne =>
          cases h
          rw [List.map_cons, ij_cv_ref B hne]
          exact lv_ifnull hx hb hd k
      · cases h
        exact lv_ifnullN hx hb hd ht k
      · cases h
    · cases hh
  · rcases hlen with rfl | ⟨_, _, _, _, hh⟩
    · have ht := ij_tg_ok (pc := pc) (of_decide_eq_true hj)
      split at h
      · split at h
        · cases h
        · next x r hne =>
          cases h
          rw [List.map_cons, ij_cv_ref B hne]
          exact lv_ifnonnull hx hb hd ht k
      · cases h
        exact lv_ifnonnullN hx hb hd k
      · cases h
    · cases hh
  · next d lo hi os =>
    have hj1 := Bool.and_eq_true_iff.mp hj
    split at h
    · next x r =>
      split at h
      · next hc =>
        cases h
        exact lv_tableOut hx hb hd hc (ij_tg_ok (of_decide_eq_true hj1.1)) k
      · next hc =>
        split at h
        · next o ho =>
          cases h
          have hm : o ∈ os.toList := by
            have := Array.mem_of_getElem? ho
            exact Array.mem_toList_iff.mpr this
          exact lv_tableIn hx hb hd (fun q => hc (Or.inl q)) (fun q => hc (Or.inr q)) ho (ij_tg_ok (of_decide_eq_true (List.all_eq_true.mp hj1.2 o hm))) k
        · cases h
    · cases h
  · cases h
end IJ
end
section
/-! The heap of the small machine in the machine's: the world, and what stands beside it. -/
def ij_A (B : ij_B) : Nat → Prop := fun q => B.1 ≤ q
def ij_tys (aC : Nat → ClassId) : List (ClassId × FieldType) := [(aC 0, .int), (aC 1, .long), (aC 2, .byte), (aC 3, .boolean), (aC 4, .object "ScaleForge$Tray"), (aC 5, .object "ScaleForge$Scale"), (aC 6, .object "ScaleForge$Studies")]
def ij_fc (B : ij_B) (t : Nat) (m : ij_M) (j k : Nat) : Value := match t with
  | 1 => .long (m.2.1 j k)
  | 2 => va_rf ((m.2.2 j k).map (ij_ad B))
  | _ => .int (m.1 j k)
def ij_ar (B : ij_B) (kd : Nat) (m : ij_M) (j : Nat) : (Nat → Int32) ⊕ (Nat → Int64) ⊕ (Nat → UInt32) ⊕ (Nat → UInt64) ⊕ (Nat → Option Nat) :=
  if kd = 101 then .inr (.inl (m.2.1 j)) else if kd < 104 then .inl (m.1 j) else .inr (.inr (.inr (.inr (fun i => (m.2.2 j i).map (ij_ad B)))))
def ij_cell (B : ij_B) (tt : Nat → Nat → Nat) (aC : Nat → ClassId) (m : ij_M) (j : Nat) (sh : Nat × Nat) : va_E :=
  if sh.1 < 100 then .inr (sh.1, (List.range sh.2).map (fun k => ij_fc B (tt sh.1 k) m j k)) else .inl (aC (sh.1 - 100), sh.2, ij_ar B sh.1 m j)
def ij_ws (B : ij_B) (tt : Nat → Nat → Nat) (aC : Nat → ClassId) (h : ij_H) : va_W := h.1.mapIdx (fun j sh => (B.1 + j, ij_cell B tt aC h.2 j sh))
theorem ij_ws_get (B : ij_B) (tt : Nat → Nat → Nat) (aC : Nat → ClassId) (h : ij_H) (j : Nat) : (ij_ws B tt aC h)[j]? = (h.1[j]?).map (fun sh => (B.1 + j, ij_cell B tt aC h.2 j sh)) := by
  unfold ij_ws
  rw [List.getElem?_mapIdx]
theorem ij_ws_at {B : ij_B} {tt : Nat → Nat → Nat} {aC : Nat → ClassId} {h : ij_H} {j : Nat} {sh : Nat × Nat} (hj : h.1[j]? = some sh) : (ij_ws B tt aC h)[j]? = some (B.1 + j, ij_cell B tt aC h.2 j sh) := by
  rw [ij_ws_get, hj]; rfl
theorem ij_ws_D (B : ij_B) (tt : Nat → Nat → Nat) (aC : Nat → ClassId) (h : ij_H) : va_D (ij_A B) (ij_ws B tt aC h) := by
  refine ⟨fun i j p q hp hq e => ?_, fun k q hq => ?_⟩
  · rw [ij_ws_get] at hp hq
    obtain ⟨a, -, ha⟩ := Option.map_eq_some_iff.mp hp
    obtain ⟨b, -, hb⟩ := Option.map_eq_some_iff.mp hq
    rw [← ha, ← hb] at e
    dsimp only at e
    omega
  · rw [ij_ws_get] at hq
    obtain ⟨a, -, ha⟩ := Option.map_eq_some_iff.mp hq
    rw [← ha]
    show B.1 ≤ B.1 + k
    omega
/-- a cell is written anew: the world behind it -/
theorem ij_ws_set {B : ij_B} {tt : Nat → Nat → Nat} {aC : Nat → ClassId} {h : ij_H} {m' : ij_M} {j : Nat} {sh : Nat × Nat} {x : va_E} (hj : h.1[j]? = some sh) (hx : ij_cell B tt aC m' j sh = x)
    (h1 : ∀ i, i ≠ j → m'.1 i = h.2.1 i) (h2 : ∀ i, i ≠ j → m'.2.1 i = h.2.2.1 i) (h3 : ∀ i, i ≠ j → m'.2.2 i = h.2.2.2 i) : (ij_ws B tt aC h).set j (B.1 + j, x) = ij_ws B tt aC (h.1, m') := by
  apply List.ext_getElem?
  intro i
  rw [List.getElem?_set, ij_ws_get, ij_ws_get]
  by_cases hi : j = i
  · subst hi
    have hlt : j < (ij_ws B tt aC h).length := (List.getElem?_eq_some_iff.mp (ij_ws_at hj)).1
    rw [if_pos rfl, if_pos hlt]
    show _ = (h.1[j]?).map _
    rw [hj]
    show some (B.1 + j, x) = some (B.1 + j, ij_cell B tt aC m' j sh)
    rw [hx]
  · rw [if_neg hi]
    have hi : i ≠ j := fun q => hi q.symm
    have e : ∀ sh, ij_cell B tt aC h.2 i sh = ij_cell B tt aC m' i sh := by
      intro sh
      unfold ij_cell ij_ar ij_fc
      rw [h1 i hi, h2 i hi, h3 i hi]
    simp only [e]
theorem ij_ui_ne {f : Nat → Nat → Int32} {j k : Nat} {v : Int32} {i : Nat} (h : i ≠ j) : ij_ui f j k v i = f i := if_neg h
theorem ij_ui_eq {f : Nat → Nat → Int32} {j k : Nat} {v : Int32} : ij_ui f j k v j = upd (f j) k v := if_pos rfl
theorem ij_ul_ne {f : Nat → Nat → Int64} {j k : Nat} {v : Int64} {i : Nat} (h : i ≠ j) : ij_ul f j k v i = f i := if_neg h
theorem ij_ul_eq {f : Nat → Nat → Int64} {j k : Nat} {v : Int64} : ij_ul f j k v j = vp_updL (f j) k v := if_pos rfl
theorem ij_ur_ne {f : Nat → Nat → Option Nat} {j k : Nat} {v : Option Nat} {i : Nat} (h : i ≠ j) : ij_ur f j k v i = f i := if_neg h
theorem ij_ur_eq {f : Nat → Nat → Option Nat} {j k : Nat} {v : Option Nat} : ij_ur f j k v j = va_up (f j) k v := if_pos rfl
theorem ij_row_ne {α : Type} {f : Nat → Nat → α} {j : Nat} {r : Nat → α} {i : Nat} (h : i ≠ j) : ij_row f j r i = f i := if_neg h
theorem ij_row_eq {α : Type} {f : Nat → Nat → α} {j : Nat} {r : Nat → α} : ij_row f j r j = r := if_pos rfl
theorem ij_rv_ok (B : ij_B) {o : Option Nat} {v : Value} (h : ij_rv o = some v) : ij_cv B v = va_rf (o.map (ij_ad B)) := by
  unfold ij_rv at h
  split at h
  · cases h; rfl
  · split at h
    · next hx => cases h; rw [ij_cv_ref B (by omega)]; rfl
    · cases h
theorem ij_fv_ok (B : ij_B) {t : Nat} {m : ij_M} {j k : Nat} {v : Value} (h : ij_fv t m j k = some v) : ij_cv B v = ij_fc B t m j k := by
  unfold ij_fv at h
  unfold ij_fc
  split at h
  · cases h; rfl
  · exact ij_rv_ok B h
  · next h1 h2 =>
    cases h
    split
    · exact absurd rfl h1
    · exact absurd rfl h2
    · rfl
/-! what stands beside the world -/
abbrev ij_N1 : Type := List (String × Nat × String × String × String × String)
abbrev ij_N2 : Type := List (String × Nat × MethodName × String)
abbrev ij_S1 : Type := List (String × Nat × String × Nat)
def ij_sn (k : Nat) : String := match k with
  | 0 => "WITHOUT"
  | 1 => "LEAST"
  | _ => "MOST"
def ij_Ev (B : ij_B) (D : va_G) (cl : List vw_C) (aC : Nat → ClassId) (n1 : ij_N1) (n2 : ij_N2) (sr : ij_S1) (xt : ij_X) (U : State) : Prop :=
  va_K D cl (ij_tys aC) U ∧ (∀ q ∈ n1, va_Nw (.fieldLinkNest q.1 q.2.1 q.2.2.1 q.2.2.2.1 q.2.2.2.2.1 q.2.2.2.2.2) U) ∧ (∀ q ∈ n2, va_Nw (.methodLinkNest q.1 q.2.1 q.2.2.1 q.2.2.2) U)
  ∧ (va_AO "ScaleForge$Tray" U ∧ va_AO "ScaleForge$Scale" U ∧ va_AO "ScaleForge$Studies" U)
  ∧ (∀ k, k < 3 → va_Z "ScaleForge" (ij_sn k) "[I" (.ref (B.2.1 (1000001 + k))) (ij_A B) U U.heap)
  ∧ va_Z "java/lang/String" "COMPACT_STRINGS" "Z" (.int 1) (ij_A B) U U.heap
  ∧ va_Z "jdk/internal/util/Preconditions" "SIOOBE_FORMATTER" "Ljava/util/function/BiFunction;" B.2.2 (ij_A B) U U.heap
  ∧ (∀ k kd n f, xt k = some (kd, n, f) → (¬ k < 1000000 ∧ ¬ k = 1999999) ∧ ∃ ty, va_T ty (B.2.1 k) n (fun j => .int (f j)) (ij_A B) U U.heap ∧ (kd = 100 → ty = .int) ∧ (kd = 102 → ty = .byte))
  ∧ (∀ i, i < 24 → va_O "java/lang/String" (B.2.1 (1000010 + i)) (ij_A B) U U.heap ∧ va_OF "java/lang/String" "coder" "B" (.int 0) (B.2.1 (1000010 + i)) (ij_A B) U U.heap ∧ va_OF "java/lang/String" "value" "[B" (.ref (B.2.1 (1000060 + i))) (B.2.1 (1000010 + i)) (ij_A B) U U.heap)
  ∧ ∀ q ∈ sr, vk_R q.1 q.2.1 q.2.2.1 (B.2.1 (1000010 + q.2.2.2)) U
theorem ij_Ev.move {B : ij_B} {D : va_G} {cl : List vw_C} {aC : Nat → ClassId} {n1 : ij_N1} {n2 : ij_N2} {sr : ij_S1} {xt : ij_X} {s U : State} (h : ij_Ev B D cl aC n1 n2 sr xt s) (hq : ∀ a : Nat, a < s.heap.size → ¬ ij_A B a → U.heap[a]? = s.heap[a]?) (hW : s.WarmedH U.vm) : ij_Ev B D cl aC n1 n2 sr xt U := by
  obtain ⟨e1, e2, e3, ⟨e4, e5, e6⟩, e7, e8, e9, e10, e11, e12⟩ := h
  have ha := hW.alike
  refine ⟨va_K.moved ha e1, fun q hm => va_Nw.warmF hW (e2 q hm), fun q hm => va_Nw.warmM hW (e3 q hm), ⟨va_AO.moved ha e4, va_AO.moved ha e5, va_AO.moved ha e6⟩, fun k hk => (va_Z.moved ha (e7 k hk)).kept hq, (va_Z.moved ha e8).kept hq, (va_Z.moved ha e9).kept hq, fun k kd n f hx => ?_, fun i hi => ?_, fun q hm => vk_R.warm hW (e12 q hm)⟩
  · obtain ⟨g1, ty, g2, g3⟩ := e10 k kd n f hx
    exact ⟨g1, ty, (va_T.moved ha g2).kept hq, g3⟩
  · obtain ⟨g1, g2, g3⟩ := e11 i hi
    exact ⟨(va_O.moved ha g1).kept hq, (va_OF.moved ha g2).kept hq, (va_OF.moved ha g3).kept hq⟩
/-! what a row of a method must hold of the tables, for reads -/
abbrev ij_Cx : Type := (Nat → String) × (Nat → u_T) × (Nat → Nat)
def ij_okR (X : ij_Cx) (gw : List Cond) (n1 : ij_N1) (sr : ij_S1) (own : String) (R : Room) (i : Instr) (a b : Nat) : Prop := match i with
  | .getfield idx => (a < 12 ∧ b < X.2.2 a ∧ Cond.fieldLink own idx (X.2.1 a b).1 (X.2.1 a b).2.1 (X.2.1 a b).2.2.1 ∈ gw) ∨ (a = 114 ∧ b = 0 ∧ Cond.fieldLink own idx "java/lang/String" "value" "[B" ∈ gw) ∨ (a = 114 ∧ b = 1 ∧ Cond.fieldLink own idx "java/lang/String" "coder" "B" ∈ gw)
  | .getstatic idx => (a < 3 ∧ (Cond.fieldLink own idx "ScaleForge" (ij_sn a) "[I" ∈ gw ∨ ∃ hst, (own, idx, "ScaleForge", ij_sn a, "[I", hst) ∈ n1)) ∨ (a = 3 ∧ Cond.fieldLink own idx "java/lang/String" "COMPACT_STRINGS" "Z" ∈ gw) ∨ (a = 4 ∧ Cond.fieldLink own idx "jdk/internal/util/Preconditions" "SIOOBE_FORMATTER" "Ljava/util/function/BiFunction;" ∈ gw)
  | .ldc idx => (a = 0 ∧ Cond.constant own idx (Int32.ofNat b) ∈ gw) ∨ (a = 1 ∧ ∃ tx, (own, idx, tx, b) ∈ sr)
  | .ldc_w idx => Cond.constant own idx (Int32.ofNat b) ∈ gw
  | .ldc2_w idx => Cond.constantLong own idx (Int64.ofNat b) ∈ gw
  | .invokespecial idx => a = 999999 → (Cond.methodLink own idx Lib.objectInit ∈ gw ∧ Cond.instanceMethod Lib.objectInit ∈ gw ∧ Cond.code Lib.objectInit ⟨#[0xb1]⟩ 1 none ∈ gw ∧ 1 ≤ R.frames ∧ 20 ≤ R.locals)
  | _ => True
section IJ
variable {p : Program} {l : Launch} {e : Env} {R : Room} {s : State} {m : MethodId} {args : Array Value} {below : List Frame} {meth : Method} {c : Code} {H : Heap} {locs : List Loc} {cells slots : Nat} {Q : State → Prop}
variable {cc : ByteArray} {pc : Nat} {ls : Array Slot} {B : ij_B} {D : va_G} {cl : List vw_C} {aC : Nat → ClassId} {n1 : ij_N1} {n2 : ij_N2} {sr : ij_S1} {xt : ij_X} {X : ij_Cx} {gw : List Cond} {own : String} {tt : Nat → Nat → Nat}
theorem ij_in {i : Int32} {n : Nat} (h : ¬ (i < 0 ∨ n ≤ i.toNatClampNeg)) : vp_in i n := h
set_option maxHeartbeats 8000000 in
theorem ij_hR_ok (hB : B.2.2.category = 1) (hcl : ∀ ci, ci < 12 → cl[ci]? = some (X.1 ci, X.2.1 ci, X.2.2 ci)) (hcw : ∀ ci, ci < 12 → ∀ w ∈ u_ws (X.1 ci) (X.2.1 ci) (X.2.2 ci), w ∈ gw)
    (hx : p.tables.exec = Jvm.exec) (hb : c.code = cc) {i : Instr} (hd : decode cc pc = .ok (i, ij_len i)) (hown : s.vm.findClass own = some m.cls) (hts : ∀ w ∈ gw, w.before args s = true) (hE : ij_Ev B D cl aC n1 n2 sr xt s) {h : ij_H} (hP : va_P D cl (ij_ws B tt aC h) H) (hS : va_S (ij_A B) s.heap H locs) (hml : ls.size = c.maxLocals)
    {a b : Nat} (hok : ij_okR X gw n1 sr own R i a b) {st st' : List Value} (hr : ij_hR tt xt i a b st h = some st')
    (k : W p l e R s m args below meth c H locs cells slots Q (F0 m (pc + ij_len i) ls (st'.map (ij_cv B)))) : W p l e R s m args below meth c H locs cells slots Q (F0 m pc ls (st.map (ij_cv B))) := by
  obtain ⟨hK, e2, e3, -, e7, e8, e9, e10, e11, e12⟩ := hE
  unfold ij_hR at hr
  split at hr
  · -- getfield
    split at hr
    · next j r =>
      split at hr
      · next hj =>
        split at hr
        · next kd n hsh =>
          split at hr
          · next hc =>
            obtain ⟨rfl, h100, hbn⟩ := hc
            obtain ⟨v, hv, rfl⟩ := Option.map_eq_some_iff.mp hr
            rcases hok with ⟨g1, g2, g3⟩ | ⟨g1, -⟩ | ⟨g1, -⟩
            · rw [List.map_cons, ij_cv_cell B hj]
              rw [List.map_cons, ij_fv_ok B hv] at k
              have hw := ij_ws_at (B := B) (tt := tt) (aC := aC) hsh
              rw [show ij_cell B tt aC h.2 j (kd, n) = .inr (kd, (List.range n).map (fun k => ij_fc B (tt kd k) h.2 j k)) from if_pos h100] at hw
              exact va_get hx hb hts (hcw kd g1) hown hK hP j hw (hcl kd g1) b g2 (hts _ g3) (fun _ q => q) (by rw [List.getElem?_map, List.getElem?_range hbn]; rfl) hd k
            · omega
            · omega
          · cases hr
        · cases hr
      · split at hr
        · next hj hc =>
          obtain ⟨j, rfl⟩ : ∃ j' : Nat, j' = j := ⟨_, rfl⟩
          obtain ⟨c1, c2, rfl⟩ := hc
          have c1 : (1000010 : Nat) ≤ j := c1
          have c2 : j < (1000034 : Nat) := c2
          have hj2 : j = 1000010 + (j - 1000010) := by omega
          obtain ⟨f1, f2, f3⟩ := e11 (j - 1000010) (by omega)
          rw [← hj2] at f2 f3
          rw [List.map_cons, ij_cv_out B hj (by omega)]
          split at hr
          · cases hr
            rcases hok with ⟨g1, -⟩ | ⟨-, -, g3⟩ | ⟨-, g2, -⟩
            · omega
            · rw [List.map_cons, ij_cv_out B (by omega) (by omega)] at k
              refine vk_getf hx hb f3 hS hown (hts _ g3) (fun _ q => q) hd ?_
              rw [show 1000060 + (j - 1000010) = j + 50 by omega]
              exact k
            · cases g2
          · cases hr
            rcases hok with ⟨g1, -⟩ | ⟨-, g2, -⟩ | ⟨-, -, g3⟩
            · omega
            · cases g2
            · exact vk_getf hx hb f2 hS hown (hts _ g3) (fun _ q => q) hd k
          · cases hr
        · cases hr
    · cases hr
  · -- iaload
    split at hr
    · next i j r =>
      split at hr
      · next hj =>
        split at hr
        · next n hsh =>
          split at hr
          · cases hr
          · next hin =>
            cases hr
            rw [List.map_cons, List.map_cons, ij_cv_cell B hj]
            exact va_iald hx hb hK hP j 0 (cA := aC 0) (n := n) (f := h.2.1 j) (ij_ws_at hsh) rfl hin hd k
        · cases hr
      · next hj =>
        split at hr
        · next n f hxt =>
          split at hr
          · cases hr
          · next hin =>
            cases hr
            obtain ⟨⟨g1, g2⟩, ty, g3, g4, -⟩ := e10 _ _ _ _ hxt
            cases g4 rfl
            rw [List.map_cons, List.map_cons, ij_cv_out B g1 g2]
            exact va_ti hx hb g3 hS hin rfl hd k
        · cases hr
    · cases hr
  · -- baload
    split at hr
    · next i j r =>
      split at hr
      · next hj =>
        split at hr
        · next n hsh =>
          split at hr
          · cases hr
          · next hin =>
            cases hr
            rw [List.map_cons, List.map_cons, ij_cv_cell B hj]
            exact va_bald hx hb hK hP j 2 (cA := aC 2) (n := n) (f := h.2.1 j) (ij_ws_at hsh) rfl hin hd k
        · next n hsh =>
          split at hr
          · cases hr
          · next hin =>
            cases hr
            rw [List.map_cons, List.map_cons, ij_cv_cell B hj]
            exact va_zald hx hb hK hP j 3 (cA := aC 3) (n := n) (f := h.2.1 j) (ij_ws_at hsh) rfl hin hd k
        · cases hr
      · next hj =>
        split at hr
        · next n f hxt =>
          split at hr
          · cases hr
          · next hin =>
            cases hr
            obtain ⟨⟨g1, g2⟩, ty, g3, -, g4⟩ := e10 _ _ _ _ hxt
            cases g4 rfl
            rw [List.map_cons, List.map_cons, ij_cv_out B g1 g2]
            exact va_tb hx hb g3 hS hin rfl hd k
        · cases hr
    · cases hr
  · -- laload
    split at hr
    · next i j r =>
      split at hr
      · next hj =>
        split at hr
        · next n hsh =>
          split at hr
          · cases hr
          · next hin =>
            cases hr
            rw [List.map_cons, List.map_cons, ij_cv_cell B hj]
            exact va_lald hx hb hK hP j 1 (cA := aC 1) (n := n) (f := h.2.2.1 j) (ij_ws_at hsh) rfl hin hd k
        · cases hr
      · cases hr
    · cases hr
  · -- aaload
    split at hr
    · next i j r =>
      split at hr
      · next hj =>
        split at hr
        · next kd n hsh =>
          split at hr
          · cases hr
          · next hin =>
            obtain ⟨v, hv, rfl⟩ := Option.map_eq_some_iff.mp hr
            rw [List.map_cons, List.map_cons, ij_cv_cell B hj]
            rw [List.map_cons, ij_rv_ok B hv] at k
            have hin2 : vp_in i n := fun q => hin (Or.inr (Or.inr q))
            have h3 : kd = 104 ∨ kd = 105 ∨ kd = 106 := by omega
            rcases h3 with rfl | rfl | rfl
            · exact va_aldq hx hb hK hP j 4 (cA := aC 4) (n := n) (f := fun i => (h.2.2.2 j i).map (ij_ad B)) (ij_ws_at hsh) rfl hin2 hd k
            · exact va_aldq hx hb hK hP j 5 (cA := aC 5) (n := n) (f := fun i => (h.2.2.2 j i).map (ij_ad B)) (ij_ws_at hsh) rfl hin2 hd k
            · exact va_aldq hx hb hK hP j 6 (cA := aC 6) (n := n) (f := fun i => (h.2.2.2 j i).map (ij_ad B)) (ij_ws_at hsh) rfl hin2 hd k
        · cases hr
      · cases hr
    · cases hr
  · -- arraylength
    split at hr
    · next j r =>
      split at hr
      · next hj =>
        split at hr
        · next kd n hsh =>
          split at hr
          · cases hr
          · next hin =>
            cases hr
            rw [List.map_cons, ij_cv_cell B hj]
            have hw := ij_ws_at (B := B) (tt := tt) (aC := aC) hsh
            rw [show ij_cell B tt aC h.2 j (kd, n) = .inl (aC (kd - 100), n, ij_ar B kd h.2 j) from if_neg (by show ¬ kd < 100; omega)] at hw
            have h3 : kd = 100 ∨ kd = 101 ∨ kd = 102 ∨ kd = 103 ∨ kd = 104 ∨ kd = 105 ∨ kd = 106 := by omega
            rcases h3 with rfl | rfl | rfl | rfl | rfl | rfl | rfl
            · exact va_alen hx hb hK hP j 0 hw rfl rfl hd k
            · exact va_alen hx hb hK hP j 1 hw rfl rfl hd k
            · exact va_alen hx hb hK hP j 2 hw rfl rfl hd k
            · exact va_alen hx hb hK hP j 3 hw rfl rfl hd k
            · exact va_alen hx hb hK hP j 4 hw rfl rfl hd k
            · exact va_alen hx hb hK hP j 5 hw rfl rfl hd k
            · exact va_alen hx hb hK hP j 6 hw rfl rfl hd k
        · cases hr
      · next hj =>
        split at hr
        · next kd n f hxt =>
          cases hr
          obtain ⟨⟨g1, g2⟩, ty, g3, -⟩ := e10 _ _ _ _ hxt
          rw [List.map_cons, ij_cv_out B g1 g2]
          exact va_tlen hx hb g3 hS rfl hd k
        · cases hr
    · cases hr
  · -- getstatic
    split at hr
    · cases hr
      rw [List.map_cons, ij_cv_out B (by omega) (by omega)] at k
      rcases hok with ⟨-, g | ⟨hst, g⟩⟩ | ⟨g1, -⟩ | ⟨g1, -⟩
      · exact va_gets hx hb (e7 0 (by omega)) hS hown (hts _ g) (fun _ q => q) hd k
      · exact va_getsN hx hb (e7 0 (by omega)) hS hown (va_Nw.use rfl (e2 _ g)) (fun _ q => q) hd k
      · cases g1
      · cases g1
    · cases hr
      rw [List.map_cons, ij_cv_out B (by omega) (by omega)] at k
      rcases hok with ⟨-, g | ⟨hst, g⟩⟩ | ⟨g1, -⟩ | ⟨g1, -⟩
      · exact va_gets hx hb (e7 1 (by omega)) hS hown (hts _ g) (fun _ q => q) hd k
      · exact va_getsN hx hb (e7 1 (by omega)) hS hown (va_Nw.use rfl (e2 _ g)) (fun _ q => q) hd k
      · cases g1
      · cases g1
    · cases hr
      rw [List.map_cons, ij_cv_out B (by omega) (by omega)] at k
      rcases hok with ⟨-, g | ⟨hst, g⟩⟩ | ⟨g1, -⟩ | ⟨g1, -⟩
      · exact va_gets hx hb (e7 2 (by omega)) hS hown (hts _ g) (fun _ q => q) hd k
      · exact va_getsN hx hb (e7 2 (by omega)) hS hown (va_Nw.use rfl (e2 _ g)) (fun _ q => q) hd k
      · cases g1
      · cases g1
    · cases hr
      rcases hok with ⟨g1, -⟩ | ⟨-, g⟩ | ⟨g1, -⟩
      · omega
      · exact va_gets hx hb e8 hS hown (hts _ g) (fun _ q => q) hd k
      · cases g1
    · cases hr
      rcases hok with ⟨g1, -⟩ | ⟨g1, -⟩ | ⟨-, g⟩
      · omega
      · cases g1
      · exact va_gets hx hb e9 hS hown (hts _ g) (fun _ q => q) hd k
    · cases hr
  · -- ldc
    split at hr
    · cases hr
      rcases hok with ⟨-, g⟩ | ⟨g1, -⟩
      · exact lv_ldc hx hb hown (hts _ g) hd k
      · cases g1
    · split at hr
      · next hb24 =>
        cases hr
        rcases hok with ⟨g1, -⟩ | ⟨-, tx, g⟩
        · cases g1
        · rw [List.map_cons, ij_cv_out B (by omega) (by omega)] at k
          exact va_ldcS hx hb hown (e12 _ g) hd k
      · cases hr
    · cases hr
  · -- ldc_w
    split at hr
    · cases hr
      exact lv_ldcw hx hb hown (hts _ hok) hd k
    · cases hr
  · -- ldc2_w
    cases hr
    exact lv_ldc2 hx hb hown (hts _ hok) hd k
  · -- Object.<init>
    split at hr
    · next j r =>
      split at hr
      · next hj =>
        cases hr
        obtain ⟨g1, g2, g3, g4, g5⟩ := hok rfl
        rw [List.map_cons, ij_cv_cell B hj.1]
        refine W.objInit hx hb hown (hts _ g1) (hts _ g2) (hts _ g3) rfl hml rfl hd g4 ?_ k
        have := lv_room (m := m) (pc := pc) (ls := ls) (rest := .ref (B.1 + j) :: st'.map (ij_cv B)) (st := st'.map (ij_cv B)) (by rw [ij_cv_sum B hB]; exact hj.2)
        omega
      · cases hr
    · cases hr
  · cases hr
end IJ
end
section
/-! Writes of the small machine are writes of the machine. -/
def ij_sl (h : ij_H) : Nat := (h.1.map Prod.snd).sum
def ij_tk (t : FieldType) : Nat := match t with
  | .int => 0
  | .long => 1
  | .boolean => 3
  | .object _ => 2
  | .array _ => 2
  | _ => 9
def ij_okW (X : ij_Cx) (gw : List Cond) (own : String) (ini : Prop) (R : Room) (i : Instr) (a b : Nat) : Prop := match i with
  | .putfield idx => a < 12 ∧ b < X.2.2 a ∧ Cond.fieldLink own idx (X.2.1 a b).1 (X.2.1 a b).2.1 (X.2.1 a b).2.2.1 ∈ gw ∧ ((X.2.1 a b).2.2.2 = false ∨ ((X.2.1 a b).2.2.2 = true ∧ ini ∧ (X.2.1 a b).1 = own))
  | .newarray t => Cond.arrayClass (newarray.typeOf t) ∈ gw
  | .anewarray idx => Cond.classLink own idx (X.1 (ij_ecl a)) ∈ gw
  | .new idx => a < 12 ∧ b = X.2.2 a ∧ Cond.classLink own idx (X.1 a) ∈ gw ∧ Cond.instantiable (X.1 a) (X.2.2 a) ∈ gw ∧ Cond.initialized (X.1 a) ∈ gw
  | .invokestatic idx => a = 999998 → (Cond.methodLink own idx arraycopyName ∈ gw ∧ Cond.native arraycopyName ∈ gw ∧ Cond.static arraycopyName ∈ gw ∧ Cond.initialized "java/lang/System" ∈ gw ∧ 1 ≤ R.frames ∧ 26 ≤ R.locals)
  | _ => True
section IJ
variable {p : Program} {l : Launch} {e : Env} {R : Room} {s : State} {m : MethodId} {args : Array Value} {below : List Frame} {meth : Method} {c : Code} {H : Heap} {locs : List Loc} {cells slots : Nat} {Q : State → Prop}
variable {cc : ByteArray} {pc : Nat} {ls : Array Slot} {B : ij_B} {D : va_G} {cl : List vw_C} {aC : Nat → ClassId} {n1 : ij_N1} {n2 : ij_N2} {sr : ij_S1} {xt : ij_X} {X : ij_Cx} {gw : List Cond} {own : String} {tt : Nat → Nat → Nat}
theorem ij_W_size {g : JFrame} (k : H.size ≤ s.heap.size + cells → W p l e R s m args below meth c H locs cells slots Q g) : W p l e R s m args below meth c H locs cells slots Q g := fun T hT X => k (by rw [← hT]; exact X.heapSize) T hT X
/-- a copy out of an int array that nobody writes -/
theorem ij_copyt {rest : List Value} {ws : va_W} {tys : List (ClassId × FieldType)} {A : Nat → Prop} {a : Nat} (hexec : p.tables.exec = Jvm.exec) (hb : c.code = cc) (hml : c.maxLocals = ls.size) {index : Nat} (hown : s.vm.findClass own = some m.cls) (hlink : (Cond.methodLink own index arraycopyName).before args s = true) (hnat : (Cond.native arraycopyName).before args s = true) (hstat : (Cond.static arraycopyName).before args s = true) (hini : (Cond.initialized "java/lang/System").before args s = true)
    (hK : va_K D cl tys s) (hP : va_P D cl ws H) (hD : va_D A ws) (hS : va_S A s.heap H locs) {b0 n0 : Nat} {f : Nat → Int32} (hX : va_T .int b0 n0 (fun j => .int (f j)) A s s.heap) (q1 t1 : Nat) {c1 : ClassId} {n1 : Nat} {g : Nat → Int32} (ha1 : ws[q1]? = some (a, .inl (c1, n1, .inl g))) (ht1 : tys[t1]? = some (c1, .int))
    {sp dp n : Int32} (h1 : ¬ sp < 0) (h2 : ¬ dp < 0) (h3 : ¬ n < 0) (h4 : sp.toNatClampNeg + n.toNatClampNeg ≤ n0) (h5 : dp.toNatClampNeg + n.toNatClampNeg ≤ n1)
    (hframes : 1 ≤ R.frames) (hlocals : (rest.map fun v => v.category).sum + (nativeFrameWords "java/lang/System" "arraycopy" 5 + 11) ≤ R.locals) (hdg : decode cc pc = .ok (.invokestatic index, 3))
    (kk : ∀ (H1 : Heap) (locs1 : List Loc), va_P D cl (ws.set q1 (a, .inl (c1, n1, .inl (va_cpy f g sp.toNatClampNeg dp.toNatClampNeg n.toNatClampNeg)))) H1 → va_S A s.heap H1 locs1 → W p l e R s m args below meth c H1 locs1 cells slots Q (F0 m (pc + 3) ls rest)) : W p l e R s m args below meth c H locs cells slots Q (F0 m pc ls (.int n :: .int dp :: .ref a :: .int sp :: .ref b0 :: rest)) := by
  have nn : ∀ z : Int32, ¬ z < 0 → z.toInt = (z.toNatClampNeg : Int) := by
    intro z hz
    have hz0 : (0 : Int) ≤ z.toInt := by simpa using Int32.le_iff_toInt_le.mp (Int32.not_lt.mp hz)
    show z.toInt = ((z.toInt.toNat : Nat) : Int)
    omega
  intro T hT Y
  obtain ⟨scr, hs1, hs2, hs3, hs4, -, hs5, hs7⟩ := hX
  have hc0 : H[b0]? = some scr := by rw [hS.2.1 b0 (Array.getElem?_eq_some_iff.mp hs1).1 hs7]; exact hs1
  have hc1 : H[a]? = some (vp_cell c1 (n1, .inl g)) := hP q1 _ ha1
  obtain ⟨hs6, k0, hk0, cm0, hkk0⟩ := hs2
  obtain ⟨-, k1, hk1, cm1, hkk1⟩ := (hK.2 t1 _ ht1).1 n1 (fun j => .int (g j))
  generalize hN : va_cpy f g sp.toNatClampNeg dp.toNatClampNeg n.toNatClampNeg = fN at kk
  obtain ⟨vm', Y', step⟩ := Y.arraycopy hexec hown hlink hnat hstat hini (src := b0) (dst := a) (cs := scr) (cd := vp_cell c1 (n1, .inl g)) (srcPos := sp) (destPos := dp) (n := n) (by rw [hT]; exact hc0) (by rw [hT]; exact hc1)
    hs6 (fun _ h => by cases h) hs3 (fun h => by cases h) hk0 hk1 hkk0 hkk1 (by simp [refKind]) h1 h2 h3
    (by rw [nn sp h1, nn n h3]; omega)
    (by rw [nn dp h2, nn n h3]; show ¬ _ > ((arrV c1 n1 (fun j => .int (g j))).slots.size : Int); rw [arrV_size]; omega)
    (fun vm₁ _ i hi => by
      have e : scr.slots.getD (sp.toNatClampNeg + i) .null = .int (f (sp.toNatClampNeg + i)) := by
        rw [Array.getD_eq_getD_getElem?, hs5 _ (by omega)]
        rfl
      rw [e]
      exact ⟨rfl, trivial⟩)
    (g := F0 m pc ls (.int n :: .int dp :: .ref a :: .int sp :: .ref b0 :: rest)) rfl (by rw [hml]) (rest := rest) rfl (by rw [hb]; exact hdg) hframes (by show 2 * 0 + _ + _ ≤ _; omega)
  have e1 : copied scr (vp_cell c1 (n1, .inl g)) sp dp n = vp_cell c1 (n1, .inl fN) := by
    rw [← hN]; exact va_copiedX (fun z => .int z) scr c1 f g hs5 h4
  rw [e1] at Y' step
  have hl : a < H.size := (Array.getElem?_eq_some_iff.mp hc1).1
  have hheap : ((T.setVm vm').setCell a (vp_cell c1 (n1, .inl fN))).heap = H.setIfInBounds a (vp_cell c1 (n1, .inl fN)) := by rw [← hT]; rfl
  have oq : ∀ q : Nat, q ≠ a → (H.setIfInBounds a (vp_cell c1 (n1, .inl fN)))[q]? = H[q]? := fun q hq => by simp [Array.getElem?_setIfInBounds, Ne.symm hq]
  obtain ⟨t, a1, b1⟩ := kk _ _ (hP.set hD ha1 (show (H.setIfInBounds a _)[a]? = some _ by simp [Array.getElem?_setIfInBounds, hl]) oq) ⟨by simp; exact hS.1, fun q g1 g2 => by
      rw [oq q (fun e => g2 (by rw [e]; exact hD.2 q1 _ ha1))]
      exact hS.2.1 q g1 g2, fun q hq => by
      rcases List.mem_append.mp hq with h | h
      · exact hS.2.2 q h
      · obtain ⟨z, -, hz⟩ := List.mem_map.mp h
        rw [← hz]
        exact hD.2 q1 _ ha1⟩ _ hheap Y'
  exact ⟨t, step t a1, b1⟩
theorem ij_fs_set {t : Nat → Nat} {mm m' : ij_M} {j k n : Nat} {v : Value} (hk : k < n) (hv : ij_fc B (t k) m' j k = v) (ho : ∀ i, i ≠ k → ij_fc B (t i) m' j i = ij_fc B (t i) mm j i) :
    ((List.range n).map (fun k => ij_fc B (t k) mm j k)).set k v = (List.range n).map (fun k => ij_fc B (t k) m' j k) := by
  apply List.ext_getElem?
  intro i
  rw [List.getElem?_set, List.getElem?_map, List.getElem?_map]
  by_cases hi : k = i
  · subst hi
    rw [if_pos rfl, if_pos (by simpa using hk), List.getElem?_range hk]
    show some v = some (ij_fc B (t k) m' j k)
    rw [hv]
  · rw [if_neg hi]
    by_cases hin : i < n
    · rw [List.getElem?_range hin]
      show some (ij_fc B (t i) mm j i) = some (ij_fc B (t i) m' j i)
      rw [ho i (fun q => hi q.symm)]
    · rw [List.getElem?_eq_none (by simpa using hin)]
      rfl
theorem ij_put_ok {t : Nat} {mm m' : ij_M} {j k : Nat} {v : Value} (h : ij_put t mm j k v = some m') {ty : FieldType} (hty : ij_tk ty = t) :
    narrow ty (ij_cv B v) = ij_cv B v ∧ fits ty (ij_cv B v) = true ∧ (∀ i, i ≠ j → m'.1 i = mm.1 i) ∧ (∀ i, i ≠ j → m'.2.1 i = mm.2.1 i) ∧ (∀ i, i ≠ j → m'.2.2 i = mm.2.2 i) ∧ ij_fc B t m' j k = ij_cv B v ∧ ∀ t' i, i ≠ k → ij_fc B t' m' j i = ij_fc B t' mm j i := by
  have hfc : ∀ {t' i : Nat}, i ≠ k → m'.1 j i = mm.1 j i → m'.2.1 j i = mm.2.1 j i → m'.2.2 j i = mm.2.2 j i → ij_fc B t' m' j i = ij_fc B t' mm j i := by
    intro t' i _ h1 h2 h3
    unfold ij_fc
    rw [h1, h2, h3]
  unfold ij_put at h
  split at h
  · next x =>
    cases h
    have hi : ty = .int := by cases ty <;> simp [ij_tk] at hty ⊢
    subst hi
    refine ⟨rfl, rfl, fun i hi => ij_ui_ne hi, fun _ _ => rfl, fun _ _ => rfl, ?_, fun t' i hi => hfc hi ?_ rfl rfl⟩
    · show Value.int (ij_ui mm.1 j k x j k) = _
      rw [ij_ui_eq]; simp [upd, ij_cv]
    · show ij_ui mm.1 j k x j i = _
      rw [ij_ui_eq]; simp [upd, hi]
  · next x =>
    cases h
    have hi : ty = .long := by cases ty <;> simp [ij_tk] at hty ⊢
    subst hi
    refine ⟨rfl, rfl, fun _ _ => rfl, fun i hi => ij_ul_ne hi, fun _ _ => rfl, ?_, fun t' i hi => hfc hi rfl ?_ rfl⟩
    · show Value.long (ij_ul mm.2.1 j k x j k) = _
      rw [ij_ul_eq]; simp [vp_updL, ij_cv]
    · show ij_ul mm.2.1 j k x j i = _
      rw [ij_ul_eq]; simp [vp_updL, hi]
  · next x =>
    split at h
    · next hx =>
      cases h
      have e0 : ij_cv B (.ref x) = .ref (B.1 + x) := ij_cv_cell B hx
      refine ⟨?_, ?_, fun _ _ => rfl, fun _ _ => rfl, fun i hi => ij_ur_ne hi, ?_, fun t' i hi => hfc hi rfl rfl ?_⟩
      · rw [e0]; cases ty <;> simp [ij_tk] at hty <;> rfl
      · rw [e0]; cases ty <;> simp [ij_tk] at hty <;> rfl
      · show va_rf ((ij_ur mm.2.2 j k (some x) j k).map (ij_ad B)) = _
        rw [ij_ur_eq, e0]; simp [va_up, va_rf, ij_ad_lt B hx]
      · show ij_ur mm.2.2 j k (some x) j i = _
        rw [ij_ur_eq]; simp [va_up, hi]
    · cases h
  · next x =>
    split at h
    · next hx =>
      cases h
      have hi : ty = .boolean := by cases ty <;> simp [ij_tk] at hty ⊢
      subst hi
      refine ⟨?_, ?_, fun i hi => ij_ui_ne hi, fun _ _ => rfl, fun _ _ => rfl, ?_, fun t' i hi => hfc hi ?_ rfl rfl⟩
      · show narrow .boolean (.int x) = .int x
        rcases hx with rfl | rfl <;> decide
      · show fits .boolean (.int x) = true
        rcases hx with rfl | rfl <;> decide
      · show Value.int (ij_ui mm.1 j k x j k) = _
        rw [ij_ui_eq]; simp [upd, ij_cv]
      · show ij_ui mm.1 j k x j i = _
        rw [ij_ui_eq]; simp [upd, hi]
    · cases h
  · cases h
theorem ij_ws_new (h : ij_H) (kd n : Nat) : ij_ws B tt aC (ij_new h kd n) = ij_ws B tt aC h ++ [(B.1 + h.1.length, ij_cell B tt aC (ij_new h kd n).2 h.1.length (kd, n))] := by
  apply List.ext_getElem?
  intro i
  have hlen : (ij_ws B tt aC h).length = h.1.length := by simp [ij_ws]
  by_cases hi : i < h.1.length
  · rw [List.getElem?_append_left (by rw [hlen]; exact hi), ij_ws_get, ij_ws_get]
    show ((h.1 ++ [(kd, n)])[i]?).map _ = _
    rw [List.getElem?_append_left hi]
    have hne : i ≠ h.1.length := by omega
    have e : ∀ sh, ij_cell B tt aC (ij_new h kd n).2 i sh = ij_cell B tt aC h.2 i sh := by
      intro sh
      unfold ij_cell ij_ar ij_fc ij_new
      simp only [ij_row_ne hne]
    simp only [e]
  · rw [List.getElem?_append_right (by rw [hlen]; omega), ij_ws_get, hlen]
    show ((h.1 ++ [(kd, n)])[i]?).map _ = _
    rw [List.getElem?_append_right (by omega)]
    by_cases h0 : i = h.1.length
    · subst h0
      simp
    · rw [List.getElem?_eq_none (by simp; omega), List.getElem?_eq_none (by simp; omega)]
      rfl
theorem ij_sl_new (h : ij_H) (kd n : Nat) : ij_sl (ij_new h kd n) = ij_sl h + n := by
  simp [ij_sl, ij_new]
/-- a new cell is the next one -/
theorem ij_addr {h : ij_H} {x : va_E} {q : Nat} {H1 : Heap} {cells1 : Nat} (hsz : s.heap.size + cells = B.1 + h.1.length) (hP : va_P D cl (ij_ws B tt aC h ++ [(q, x)]) H1) (hD : va_D (ij_A B) (ij_ws B tt aC h ++ [(q, x)])) (hc : cells1 = cells + 1) (hs : H1.size ≤ s.heap.size + cells1) : q = B.1 + h.1.length := by
  have hlen : (ij_ws B tt aC h).length = h.1.length := by simp [ij_ws]
  have hq : (ij_ws B tt aC h ++ [(q, x)])[h.1.length]? = some (q, x) := by
    rw [List.getElem?_append_right (by omega), hlen]
    simp
  have h1 : q < H1.size := (hP _ _ hq).lt
  have h2 : B.1 ≤ q := hD.2 _ _ hq
  rcases Nat.lt_or_ge q (B.1 + h.1.length) with h3 | h3
  · exfalso
    have hj : q - B.1 < h.1.length := by omega
    obtain ⟨sh, hsh⟩ : ∃ sh, h.1[q - B.1]? = some sh := ⟨_, List.getElem?_eq_getElem hj⟩
    have hw := ij_ws_at (B := B) (tt := tt) (aC := aC) hsh
    have hw2 : (ij_ws B tt aC h ++ [(q, x)])[q - B.1]? = some (B.1 + (q - B.1), ij_cell B tt aC h.2 (q - B.1) sh) := by
      rw [List.getElem?_append_left (by omega)]; exact hw
    have := hD.1 _ _ _ _ hw2 hq (by show B.1 + (q - B.1) = q; omega)
    omega
  · omega
theorem ij_newrow_i (h : ij_H) (kd n : Nat) : (ij_new h kd n).2.1 h.1.length = fun _ => 0 := ij_row_eq
theorem ij_newrow_l (h : ij_H) (kd n : Nat) : (ij_new h kd n).2.2.1 h.1.length = fun _ => 0 := ij_row_eq
theorem ij_newrow_r (h : ij_H) (kd n : Nat) : (ij_new h kd n).2.2.2 h.1.length = fun _ => none := ij_row_eq
set_option maxHeartbeats 8000000 in
theorem ij_hW_ok (hB : B.2.2.category = 1) (hcl : ∀ ci, ci < 12 → cl[ci]? = some (X.1 ci, X.2.1 ci, X.2.2 ci)) (hcw : ∀ ci, ci < 12 → ∀ w ∈ u_ws (X.1 ci) (X.2.1 ci) (X.2.2 ci), w ∈ gw)
    {ty0 : Nat → Nat → FieldType} (hty : ∀ ci, ci < 12 → ∀ k, k < X.2.2 ci → parseFieldDescriptor (X.2.1 ci k).2.2.1 = some (ty0 ci k)) (htk : ∀ ci, ci < 12 → ∀ k, k < X.2.2 ci → ij_tk (ty0 ci k) = tt ci k) (ht4 : ∀ ci, ci < 12 → ∀ k, k < X.2.2 ci → tt ci k < 4) (hnm : ∀ ci, ci < 12 → ∀ a, a < X.2.2 ci → ∀ b, b < X.2.2 ci → a ≠ b → (X.2.1 ci a).2.1 ≠ (X.2.1 ci b).2.1)
    (hcn : X.1 8 = "ScaleForge$Tray" ∧ X.1 4 = "ScaleForge$Scale" ∧ X.1 6 = "ScaleForge$Studies")
    (hx : p.tables.exec = Jvm.exec) (hb : c.code = cc) {i : Instr} (hd : decode cc pc = .ok (i, ij_len i)) (hown : s.vm.findClass own = some m.cls) (hts : ∀ w ∈ gw, w.before args s = true) (hE : ij_Ev B D cl aC n1 n2 sr xt s) {h h' : ij_H} (hP : va_P D cl (ij_ws B tt aC h) H) (hS : va_S (ij_A B) s.heap H locs) (hml : ls.size = c.maxLocals)
    {ini : Prop} (hini : ini → meth.name = "<init>") (hsz : s.heap.size + cells = B.1 + h.1.length) (hbase : B.1 ≤ s.heap.size) (hroom : cells + h'.1.length ≤ R.cells + h.1.length ∧ slots + ij_sl h' ≤ R.slots + ij_sl h)
    {a b : Nat} (hok : ij_okW X gw own ini R i a b) {st st' : List Value} (hr : ij_hW tt xt i a b st h = some (st', h'))
    (k : ∀ (H1 : Heap) (locs1 : List Loc) (cells1 slots1 : Nat), cells1 + h.1.length = cells + h'.1.length → slots1 + ij_sl h = slots + ij_sl h' → va_P D cl (ij_ws B tt aC h') H1 → va_S (ij_A B) s.heap H1 locs1 → W p l e R s m args below meth c H1 locs1 cells1 slots1 Q (F0 m (pc + ij_len i) ls (st'.map (ij_cv B)))) : W p l e R s m args below meth c H locs cells slots Q (F0 m pc ls (st.map (ij_cv B))) := by
  obtain ⟨hK, e2, e3, ⟨ao1, ao2, ao3⟩, e7, e8, e9, e10, e11, e12⟩ := hE
  have hD := ij_ws_D B tt aC h
  have hA : ∀ q : Nat, s.heap.size ≤ q → ij_A B q := fun q hq => Nat.le_trans hbase hq
  unfold ij_hW at hr
  split at hr
  · -- putfield
    split at hr
    · next v j r =>
      split at hr
      · next hj =>
        split at hr
        · next kd n hsh =>
          split at hr
          · next hc =>
            obtain ⟨rfl, h100, hbn⟩ := hc
            obtain ⟨m', hm, e0⟩ := Option.map_eq_some_iff.mp hr
            cases e0
            obtain ⟨g1, g2, g3, g4⟩ := hok
            obtain ⟨f1, f2, f3, f4, f5, f6, f7⟩ := ij_put_ok (B := B) hm (htk kd g1 b g2)
            have hw := ij_ws_at (B := B) (tt := tt) (aC := aC) hsh
            rw [show ij_cell B tt aC h.2 j (kd, n) = .inr (kd, (List.range n).map (fun k => ij_fc B (tt kd k) h.2 j k)) from if_pos h100] at hw
            have hset := ij_ws_set (B := B) (tt := tt) (aC := aC) (m' := m') (x := .inr (kd, ((List.range n).map (fun k => ij_fc B (tt kd k) h.2 j k)).set b (ij_cv B v))) hsh (by
              rw [show ij_cell B tt aC m' j (kd, n) = .inr (kd, (List.range n).map (fun k => ij_fc B (tt kd k) m' j k)) from if_pos h100, ij_fs_set hbn f6 (fun i hi => f7 _ i hi)]) f3 f4 f5
            rw [List.map_cons, List.map_cons, ij_cv_cell B hj]
            rcases g4 with g4 | ⟨g4, g5, g6⟩
            · refine va_put hx hb hts (hcw kd g1) (ty0 kd) (hty kd g1) (hnm kd g1) hown hK hP hD hS j hw (hcl kd g1) b g2 (hts _ g3) (fun _ q => q) g4 (hty kd g1 b g2) f1 f2 (by simpa using hbn) hd (fun H1 locs1 hP1 hD1 hS1 => ?_)
              rw [hset] at hP1
              exact k H1 locs1 cells slots rfl rfl hP1 hS1
            · refine va_putF hx hb hts (hcw kd g1) (ty0 kd) (hty kd g1) (hnm kd g1) hown hK hP hD hS j hw (hcl kd g1) b g2 (hts _ g3) (fun _ q => q) g4 (hini g5) g6 (hty kd g1 b g2) f1 f2 (by simpa using hbn) hd (fun H1 locs1 hP1 hD1 hS1 => ?_)
              rw [hset] at hP1
              exact k H1 locs1 cells slots rfl rfl hP1 hS1
          · cases hr
        · cases hr
      · cases hr
    · cases hr
  · -- iastore
    split at hr
    · next x i j r =>
      split at hr
      · next hj =>
        split at hr
        · next n hsh =>
          split at hr
          · cases hr
          · next hin =>
            cases hr
            rw [List.map_cons, List.map_cons, List.map_cons, ij_cv_cell B hj]
            refine va_iast hx hb hK hP hD hS j 0 (cA := aC 0) (n := n) (f := h.2.1 j) (ij_ws_at hsh) rfl hin hd (fun H1 locs1 hP1 hD1 hS1 => ?_)
            rw [ij_ws_set (m' := (ij_ui h.2.1 j i.toNatClampNeg x, h.2.2)) hsh (by show Sum.inl (aC 0, n, Sum.inl (ij_ui h.2.1 j i.toNatClampNeg x j)) = _; rw [ij_ui_eq]) (fun i hi => ij_ui_ne hi) (fun _ _ => rfl) (fun _ _ => rfl)] at hP1
            exact k H1 locs1 cells slots rfl rfl hP1 hS1
        · cases hr
      · cases hr
    · cases hr
  · -- bastore
    split at hr
    · next x i j r =>
      split at hr
      · next hj =>
        split at hr
        · next n hsh =>
          split at hr
          · cases hr
          · next hin =>
            cases hr
            rw [List.map_cons, List.map_cons, List.map_cons, ij_cv_cell B hj]
            refine va_bast hx hb hK hP hD hS j 2 (cA := aC 2) (n := n) (f := h.2.1 j) (ij_ws_at hsh) rfl hin hd (fun H1 locs1 hP1 hD1 hS1 => ?_)
            rw [ij_ws_set (m' := (ij_ui h.2.1 j i.toNatClampNeg (vp_nar .byte x), h.2.2)) hsh (by show Sum.inl (aC 2, n, Sum.inl (ij_ui h.2.1 j i.toNatClampNeg (vp_nar .byte x) j)) = _; rw [ij_ui_eq]) (fun i hi => ij_ui_ne hi) (fun _ _ => rfl) (fun _ _ => rfl)] at hP1
            exact k H1 locs1 cells slots rfl rfl hP1 hS1
        · next n hsh =>
          split at hr
          · cases hr
          · next hin =>
            cases hr
            rw [List.map_cons, List.map_cons, List.map_cons, ij_cv_cell B hj]
            refine va_zast hx hb hK hP hD hS j 3 (cA := aC 3) (n := n) (f := h.2.1 j) (ij_ws_at hsh) rfl hin hd (fun H1 locs1 hP1 hD1 hS1 => ?_)
            rw [ij_ws_set (m' := (ij_ui h.2.1 j i.toNatClampNeg (vp_nar .boolean x), h.2.2)) hsh (by show Sum.inl (aC 3, n, Sum.inl (ij_ui h.2.1 j i.toNatClampNeg (vp_nar .boolean x) j)) = _; rw [ij_ui_eq]) (fun i hi => ij_ui_ne hi) (fun _ _ => rfl) (fun _ _ => rfl)] at hP1
            exact k H1 locs1 cells slots rfl rfl hP1 hS1
        · cases hr
      · cases hr
    · cases hr
  · -- lastore
    split at hr
    · next x i j r =>
      split at hr
      · next hj =>
        split at hr
        · next n hsh =>
          split at hr
          · cases hr
          · next hin =>
            cases hr
            rw [List.map_cons, List.map_cons, List.map_cons, ij_cv_cell B hj]
            refine va_last hx hb hK hP hD hS j 1 (cA := aC 1) (n := n) (f := h.2.2.1 j) (ij_ws_at hsh) rfl hin hd (fun H1 locs1 hP1 hD1 hS1 => ?_)
            rw [ij_ws_set (m' := (h.2.1, ij_ul h.2.2.1 j i.toNatClampNeg x, h.2.2.2)) hsh (by show Sum.inl (aC 1, n, Sum.inr (Sum.inl (ij_ul h.2.2.1 j i.toNatClampNeg x j))) = _; rw [ij_ul_eq]) (fun _ _ => rfl) (fun i hi => ij_ul_ne hi) (fun _ _ => rfl)] at hP1
            exact k H1 locs1 cells slots rfl rfl hP1 hS1
        · cases hr
      · cases hr
    · cases hr
  · -- aastore
    split at hr
    · next v i j r =>
      split at hr
      · next hjv =>
        split at hr
        · next kd n kv nv hsh hvh =>
          split at hr
          · cases hr
          · next hin =>
            cases hr
            have hin2 : vp_in i n := fun q => hin (Or.inr (Or.inr (Or.inr q)))
            have hkv : kv = ij_ecl kd := Decidable.byContradiction fun q => hin (Or.inr (Or.inr (Or.inl q)))
            have h3 : kd = 104 ∨ kd = 105 ∨ kd = 106 := by
              have q1 : ¬ kd < 104 := fun q => hin (Or.inl q)
              have q2 : ¬ 106 < kd := fun q => hin (Or.inr (Or.inl q))
              omega
            rw [List.map_cons, List.map_cons, List.map_cons, ij_cv_cell B hjv.1, ij_cv_cell B hjv.2]
            have eup : ∀ (f : Nat → Option Nat), (fun q => (va_up f i.toNatClampNeg (some v) q).map (ij_ad B)) = va_up (fun q => (f q).map (ij_ad B)) i.toNatClampNeg (some (B.1 + v)) := by
              intro f
              funext q
              unfold va_up
              split
              · show some (ij_ad B v) = _
                rw [ij_ad_lt B hjv.2]
              · rfl
            have hwv := ij_ws_at (B := B) (tt := tt) (aC := aC) hvh
            rcases h3 with rfl | rfl | rfl
            · subst hkv
              refine va_astq hx hb hK hP hD hS j 4 v 8 (cA := aC 4) (r := (X.1 8, X.2.1 8, X.2.2 8)) (n := n) (f := fun i => (h.2.2.2 j i).map (ij_ad B)) (ij_ws_at hsh) (by show _ = some (aC 4, FieldType.object (X.1 8)); rw [hcn.1]; rfl) hwv (hcl 8 (by omega)) hin2 hd (fun H1 locs1 hP1 hD1 hS1 => ?_)
              rw [ij_ws_set (m' := (h.2.1, h.2.2.1, ij_ur h.2.2.2 j i.toNatClampNeg (some v))) hsh (by show Sum.inl (aC 4, n, Sum.inr (Sum.inr (Sum.inr (Sum.inr (fun q => (ij_ur h.2.2.2 j i.toNatClampNeg (some v) j q).map (ij_ad B)))))) = _; rw [ij_ur_eq, eup]) (fun _ _ => rfl) (fun _ _ => rfl) (fun i hi => ij_ur_ne hi)] at hP1
              exact k H1 locs1 cells slots rfl rfl hP1 hS1
            · subst hkv
              refine va_astq hx hb hK hP hD hS j 5 v 4 (cA := aC 5) (r := (X.1 4, X.2.1 4, X.2.2 4)) (n := n) (f := fun i => (h.2.2.2 j i).map (ij_ad B)) (ij_ws_at hsh) (by show _ = some (aC 5, FieldType.object (X.1 4)); rw [hcn.2.1]; rfl) hwv (hcl 4 (by omega)) hin2 hd (fun H1 locs1 hP1 hD1 hS1 => ?_)
              rw [ij_ws_set (m' := (h.2.1, h.2.2.1, ij_ur h.2.2.2 j i.toNatClampNeg (some v))) hsh (by show Sum.inl (aC 5, n, Sum.inr (Sum.inr (Sum.inr (Sum.inr (fun q => (ij_ur h.2.2.2 j i.toNatClampNeg (some v) j q).map (ij_ad B)))))) = _; rw [ij_ur_eq, eup]) (fun _ _ => rfl) (fun _ _ => rfl) (fun i hi => ij_ur_ne hi)] at hP1
              exact k H1 locs1 cells slots rfl rfl hP1 hS1
            · subst hkv
              refine va_astq hx hb hK hP hD hS j 6 v 6 (cA := aC 6) (r := (X.1 6, X.2.1 6, X.2.2 6)) (n := n) (f := fun i => (h.2.2.2 j i).map (ij_ad B)) (ij_ws_at hsh) (by show _ = some (aC 6, FieldType.object (X.1 6)); rw [hcn.2.2]; rfl) hwv (hcl 6 (by omega)) hin2 hd (fun H1 locs1 hP1 hD1 hS1 => ?_)
              rw [ij_ws_set (m' := (h.2.1, h.2.2.1, ij_ur h.2.2.2 j i.toNatClampNeg (some v))) hsh (by show Sum.inl (aC 6, n, Sum.inr (Sum.inr (Sum.inr (Sum.inr (fun q => (ij_ur h.2.2.2 j i.toNatClampNeg (some v) j q).map (ij_ad B)))))) = _; rw [ij_ur_eq, eup]) (fun _ _ => rfl) (fun _ _ => rfl) (fun i hi => ij_ur_ne hi)] at hP1
              exact k H1 locs1 cells slots rfl rfl hP1 hS1
        · cases hr
      · cases hr
    · cases hr
  · -- newarray
    next t =>
    split at hr
    · next n r =>
      split at hr
      · cases hr
      · next hn =>
        cases hr
        have hn0 : ¬ n < 0 := fun q => hn (Or.inl q)
        have hak : ¬ ij_akind t = 0 := fun q => hn (Or.inr (Or.inl q))
        have h64 : ¬ 65536 < n.toNatClampNeg := fun q => hn (Or.inr (Or.inr (Or.inl q)))
        have hl : h.1.length < 1000000 := by
          have q : ¬ 999999 < h.1.length := fun q => hn (Or.inr (Or.inr (Or.inr q)))
          omega
        have hr1 : cells + 1 ≤ R.cells := by
          have := hroom.1
          simp [ij_new] at this
          omega
        have hr2 : slots + n.toNatClampNeg ≤ R.slots := by
          have := hroom.2
          rw [ij_sl_new] at this
          omega
        cases t with
        | int =>
          refine va_newa (atype := .int) (ty := .int) hx hb (hts _ hok) rfl hK hP hD hS hA (N' := n.toNatClampNeg) (a0 := (n.toNatClampNeg, .inl (fun _ => 0))) (fun cA => rfl) hn0 rfl (by show _ * 4 ≤ _; omega) hr1 hr2 hd (fun q cA H1 hK1 hP1 hD1 hS1 => ij_W_size (fun hs => ?_))
          have h1 : s.vm.findClass ("[" ++ FieldType.int.toString) = some cA := (hK1.2 7 (cA, .int) rfl).2
          have h2 : s.vm.findClass ("[" ++ FieldType.int.toString) = some (aC 0) := (hK.2 0 (aC 0, .int) rfl).2
          cases Option.some.inj (h1.symm.trans h2)
          cases ij_addr hsz hP1 hD1 rfl hs
          have e : ij_cell B tt aC (ij_new h 100 n.toNatClampNeg).2 h.1.length (100, n.toNatClampNeg) = .inl (aC 0, n.toNatClampNeg, .inl (fun _ => 0)) := by
            show Sum.inl (aC 0, _, Sum.inl ((ij_new h 100 n.toNatClampNeg).2.1 h.1.length)) = _
            rw [ij_newrow_i]
          rw [← e, ← ij_ws_new] at hP1
          have := k H1 locs (cells + 1) (slots + n.toNatClampNeg) (by simp [ij_akind, ij_new]; omega) (by rw [show ij_akind .int = 100 from rfl, ij_sl_new]; omega) hP1 hS1
          rwa [List.map_cons, ij_cv_cell B hl] at this
        | long =>
          refine va_newa (atype := .long) (ty := .long) hx hb (hts _ hok) rfl hK hP hD hS hA (N' := n.toNatClampNeg) (a0 := (n.toNatClampNeg, .inr (.inl (fun _ => 0)))) (fun cA => rfl) hn0 rfl (by show _ * 8 ≤ _; omega) hr1 hr2 hd (fun q cA H1 hK1 hP1 hD1 hS1 => ij_W_size (fun hs => ?_))
          have h1 : s.vm.findClass ("[" ++ FieldType.long.toString) = some cA := (hK1.2 7 (cA, .long) rfl).2
          have h2 : s.vm.findClass ("[" ++ FieldType.long.toString) = some (aC 1) := (hK.2 1 (aC 1, .long) rfl).2
          cases Option.some.inj (h1.symm.trans h2)
          cases ij_addr hsz hP1 hD1 rfl hs
          have e : ij_cell B tt aC (ij_new h 101 n.toNatClampNeg).2 h.1.length (101, n.toNatClampNeg) = .inl (aC 1, n.toNatClampNeg, .inr (.inl (fun _ => 0))) := by
            show Sum.inl (aC 1, _, Sum.inr (Sum.inl ((ij_new h 101 n.toNatClampNeg).2.2.1 h.1.length))) = _
            rw [ij_newrow_l]
          rw [← e, ← ij_ws_new] at hP1
          have := k H1 locs (cells + 1) (slots + n.toNatClampNeg) (by simp [ij_akind, ij_new]; omega) (by rw [show ij_akind .long = 101 from rfl, ij_sl_new]; omega) hP1 hS1
          rwa [List.map_cons, ij_cv_cell B hl] at this
        | byte =>
          refine va_newa (atype := .byte) (ty := .byte) hx hb (hts _ hok) rfl hK hP hD hS hA (N' := n.toNatClampNeg) (a0 := (n.toNatClampNeg, .inl (fun _ => 0))) (fun cA => rfl) hn0 rfl (by show _ * 1 ≤ _; omega) hr1 hr2 hd (fun q cA H1 hK1 hP1 hD1 hS1 => ij_W_size (fun hs => ?_))
          have h1 : s.vm.findClass ("[" ++ FieldType.byte.toString) = some cA := (hK1.2 7 (cA, .byte) rfl).2
          have h2 : s.vm.findClass ("[" ++ FieldType.byte.toString) = some (aC 2) := (hK.2 2 (aC 2, .byte) rfl).2
          cases Option.some.inj (h1.symm.trans h2)
          cases ij_addr hsz hP1 hD1 rfl hs
          have e : ij_cell B tt aC (ij_new h 102 n.toNatClampNeg).2 h.1.length (102, n.toNatClampNeg) = .inl (aC 2, n.toNatClampNeg, .inl (fun _ => 0)) := by
            show Sum.inl (aC 2, _, Sum.inl ((ij_new h 102 n.toNatClampNeg).2.1 h.1.length)) = _
            rw [ij_newrow_i]
          rw [← e, ← ij_ws_new] at hP1
          have := k H1 locs (cells + 1) (slots + n.toNatClampNeg) (by simp [ij_akind, ij_new]; omega) (by rw [show ij_akind .byte = 102 from rfl, ij_sl_new]; omega) hP1 hS1
          rwa [List.map_cons, ij_cv_cell B hl] at this
        | boolean =>
          refine va_newa (atype := .boolean) (ty := .boolean) hx hb (hts _ hok) rfl hK hP hD hS hA (N' := n.toNatClampNeg) (a0 := (n.toNatClampNeg, .inl (fun _ => 0))) (fun cA => rfl) hn0 rfl (by show _ * 1 ≤ _; omega) hr1 hr2 hd (fun q cA H1 hK1 hP1 hD1 hS1 => ij_W_size (fun hs => ?_))
          have h1 : s.vm.findClass ("[" ++ FieldType.boolean.toString) = some cA := (hK1.2 7 (cA, .boolean) rfl).2
          have h2 : s.vm.findClass ("[" ++ FieldType.boolean.toString) = some (aC 3) := (hK.2 3 (aC 3, .boolean) rfl).2
          cases Option.some.inj (h1.symm.trans h2)
          cases ij_addr hsz hP1 hD1 rfl hs
          have e : ij_cell B tt aC (ij_new h 103 n.toNatClampNeg).2 h.1.length (103, n.toNatClampNeg) = .inl (aC 3, n.toNatClampNeg, .inl (fun _ => 0)) := by
            show Sum.inl (aC 3, _, Sum.inl ((ij_new h 103 n.toNatClampNeg).2.1 h.1.length)) = _
            rw [ij_newrow_i]
          rw [← e, ← ij_ws_new] at hP1
          have := k H1 locs (cells + 1) (slots + n.toNatClampNeg) (by simp [ij_akind, ij_new]; omega) (by rw [show ij_akind .boolean = 103 from rfl, ij_sl_new]; omega) hP1 hS1
          rwa [List.map_cons, ij_cv_cell B hl] at this
        | _ => exact absurd rfl hak
    · cases hr
  · -- anewarray
    split at hr
    · next n r =>
      split at hr
      · cases hr
      · next hn =>
        cases hr
        have hn0 : ¬ n < 0 := fun q => hn (Or.inl q)
        have h64 : ¬ 65536 < n.toNatClampNeg := fun q => hn (Or.inr (Or.inr (Or.inr (Or.inl q))))
        have hl : h.1.length < 1000000 := by
          have q : ¬ 999999 < h.1.length := fun q => hn (Or.inr (Or.inr (Or.inr (Or.inr q))))
          omega
        have h3 : a = 104 ∨ a = 105 ∨ a = 106 := by
          have q1 : ¬ a < 104 := fun q => hn (Or.inr (Or.inl q))
          have q2 : ¬ 106 < a := fun q => hn (Or.inr (Or.inr (Or.inl q)))
          omega
        have hr1 : cells + 1 ≤ R.cells := by
          have := hroom.1
          simp [ij_new] at this
          omega
        have hr2 : slots + n.toNatClampNeg ≤ R.slots := by
          have := hroom.2
          rw [ij_sl_new] at this
          omega
        rcases h3 with rfl | rfl | rfl
        · have hok : Cond.classLink own _ (X.1 8) ∈ gw := hok
          rw [hcn.1] at hok
          refine va_newq hx hb hown (hts _ hok) ao1 hK hP hD hS hA hn0 rfl (by omega) hr1 hr2 hd (fun q cA H1 hK1 hP1 hD1 hS1 => ij_W_size (fun hs => ?_))
          obtain ⟨_, _, _, _, _, h1⟩ := (hK1.2 7 (cA, .object "ScaleForge$Tray") rfl).2
          obtain ⟨_, _, _, _, _, h2⟩ := (hK.2 4 (aC 4, .object "ScaleForge$Tray") rfl).2
          cases Option.some.inj (h1.symm.trans h2)
          cases ij_addr hsz hP1 hD1 rfl hs
          have e : ij_cell B tt aC (ij_new h 104 n.toNatClampNeg).2 h.1.length (104, n.toNatClampNeg) = .inl (aC 4, n.toNatClampNeg, .inr (.inr (.inr (.inr (fun _ => none))))) := by
            show Sum.inl (aC 4, _, Sum.inr (Sum.inr (Sum.inr (Sum.inr (fun i => ((ij_new h 104 n.toNatClampNeg).2.2.2 h.1.length i).map (ij_ad B)))))) = _
            rw [ij_newrow_r]
            rfl
          rw [← e, ← ij_ws_new] at hP1
          have := k H1 locs (cells + 1) (slots + n.toNatClampNeg) (by simp [ij_new]; omega) (by rw [ij_sl_new]; omega) hP1 hS1
          rwa [List.map_cons, ij_cv_cell B hl] at this
        · have hok : Cond.classLink own _ (X.1 4) ∈ gw := hok
          rw [hcn.2.1] at hok
          refine va_newq hx hb hown (hts _ hok) ao2 hK hP hD hS hA hn0 rfl (by omega) hr1 hr2 hd (fun q cA H1 hK1 hP1 hD1 hS1 => ij_W_size (fun hs => ?_))
          obtain ⟨_, _, _, _, _, h1⟩ := (hK1.2 7 (cA, .object "ScaleForge$Scale") rfl).2
          obtain ⟨_, _, _, _, _, h2⟩ := (hK.2 5 (aC 5, .object "ScaleForge$Scale") rfl).2
          cases Option.some.inj (h1.symm.trans h2)
          cases ij_addr hsz hP1 hD1 rfl hs
          have e : ij_cell B tt aC (ij_new h 105 n.toNatClampNeg).2 h.1.length (105, n.toNatClampNeg) = .inl (aC 5, n.toNatClampNeg, .inr (.inr (.inr (.inr (fun _ => none))))) := by
            show Sum.inl (aC 5, _, Sum.inr (Sum.inr (Sum.inr (Sum.inr (fun i => ((ij_new h 105 n.toNatClampNeg).2.2.2 h.1.length i).map (ij_ad B)))))) = _
            rw [ij_newrow_r]
            rfl
          rw [← e, ← ij_ws_new] at hP1
          have := k H1 locs (cells + 1) (slots + n.toNatClampNeg) (by simp [ij_new]; omega) (by rw [ij_sl_new]; omega) hP1 hS1
          rwa [List.map_cons, ij_cv_cell B hl] at this
        · have hok : Cond.classLink own _ (X.1 6) ∈ gw := hok
          rw [hcn.2.2] at hok
          refine va_newq hx hb hown (hts _ hok) ao3 hK hP hD hS hA hn0 rfl (by omega) hr1 hr2 hd (fun q cA H1 hK1 hP1 hD1 hS1 => ij_W_size (fun hs => ?_))
          obtain ⟨_, _, _, _, _, h1⟩ := (hK1.2 7 (cA, .object "ScaleForge$Studies") rfl).2
          obtain ⟨_, _, _, _, _, h2⟩ := (hK.2 6 (aC 6, .object "ScaleForge$Studies") rfl).2
          cases Option.some.inj (h1.symm.trans h2)
          cases ij_addr hsz hP1 hD1 rfl hs
          have e : ij_cell B tt aC (ij_new h 106 n.toNatClampNeg).2 h.1.length (106, n.toNatClampNeg) = .inl (aC 6, n.toNatClampNeg, .inr (.inr (.inr (.inr (fun _ => none))))) := by
            show Sum.inl (aC 6, _, Sum.inr (Sum.inr (Sum.inr (Sum.inr (fun i => ((ij_new h 106 n.toNatClampNeg).2.2.2 h.1.length i).map (ij_ad B)))))) = _
            rw [ij_newrow_r]
            rfl
          rw [← e, ← ij_ws_new] at hP1
          have := k H1 locs (cells + 1) (slots + n.toNatClampNeg) (by simp [ij_new]; omega) (by rw [ij_sl_new]; omega) hP1 hS1
          rwa [List.map_cons, ij_cv_cell B hl] at this
    · cases hr
  · -- new
    split at hr
    · next hc =>
      cases hr
      obtain ⟨g1, g2, g3, g4, g5⟩ := hok
      subst g2
      have hr1 : cells + 1 ≤ R.cells := by
        have := hroom.1
        simp [ij_new] at this
        omega
      have hr2 : slots + X.2.2 a ≤ R.slots := by
        have := hroom.2
        rw [ij_sl_new] at this
        omega
      refine va_new (ci := a) (fs := (List.range (X.2.2 a)).map (fun k => ij_fc B (tt a k) (ij_new h a (X.2.2 a)).2 h.1.length k)) hx hb hts (hcw a g1) (ty0 a) (hty a g1) hown (hts _ g3) (hts _ g4) (hts _ g5) hK hP hD hS hA (hcl a g1) (fun j hj => ?_) hr1 hr2 hd (fun q H1 hP1 hD1 hS1 => ij_W_size (fun hs => ?_))
      · have e1 := htk a g1 j hj
        simp only [vp_V, List.getD_eq_getElem?_getD, List.getElem?_map, List.getElem?_range hj, Option.map_some, Option.getD_some]
        unfold ij_fc
        rw [ij_newrow_i, ij_newrow_l, ij_newrow_r, ← e1]
        have e2 := ht4 a g1 j hj
        rw [← e1] at e2
        generalize ty0 a j = t at e2 ⊢
        cases t <;> first | rfl | (exfalso; simp [ij_tk] at e2)
      · cases ij_addr hsz hP1 hD1 rfl hs
        have e : ij_cell B tt aC (ij_new h a (X.2.2 a)).2 h.1.length (a, X.2.2 a) = .inr (a, (List.range (X.2.2 a)).map (fun k => ij_fc B (tt a k) (ij_new h a (X.2.2 a)).2 h.1.length k)) := if_pos (by show a < 100; omega)
        rw [← e, ← ij_ws_new] at hP1
        have := k H1 locs (cells + 1) (slots + X.2.2 a) (by simp [ij_new]; omega) (by rw [ij_sl_new]; omega) hP1 hS1
        rwa [List.map_cons, ij_cv_cell B hc.2] at this
    · cases hr
  · -- arraycopy
    split at hr
    · next n dp d sp s0 r =>
      split at hr
      · next hc =>
        obtain ⟨c1, c2, c3, c4, c5⟩ := hc
        obtain ⟨g1, g2, g3, g4, g5, g6⟩ := hok rfl
        have hloc : ((r.map (ij_cv B)).map fun v => v.category).sum + (nativeFrameWords "java/lang/System" "arraycopy" 5 + 11) ≤ R.locals := by
          rw [ij_cv_sum B hB, show nativeFrameWords "java/lang/System" "arraycopy" 5 = 7 from by decide +kernel]
          omega
        split at hr
        · next nd hdh =>
          split at hr
          · cases hr
          · next hd5 =>
            split at hr
            · next hs0 =>
              split at hr
              · next ns hsh =>
                split at hr
                · cases hr
                · next hs4 =>
                  cases hr
                  simp only [List.map_cons, ij_cv_cell B c1, ij_cv_cell B hs0]
                  refine va_copyi hx hb hml.symm hown (hts _ g1) (hts _ g2) (hts _ g3) (hts _ g4) hK hP hD hS s0 d 0 0 (c0 := aC 0) (c1 := aC 0) (n0 := ns) (n1 := nd) (f := h.2.1 s0) (g := h.2.1 d) (ty := .int) (ij_ws_at hsh) (ij_ws_at hdh) rfl rfl rfl c2 c3 c4 (by omega) (by omega) (fun _ _ => rfl) g5 hloc hd (fun H1 locs1 hP1 hD1 hS1 => ?_)
                  rw [ij_ws_set (m' := (ij_row h.2.1 d (va_cpy (h.2.1 s0) (h.2.1 d) sp.toNatClampNeg dp.toNatClampNeg n.toNatClampNeg), h.2.2)) hdh (by show Sum.inl (aC 0, nd, Sum.inl (ij_row h.2.1 d _ d)) = _; rw [ij_row_eq]) (fun i hi => ij_row_ne hi) (fun _ _ => rfl) (fun _ _ => rfl)] at hP1
                  exact k H1 locs1 cells slots rfl rfl hP1 hS1
              · cases hr
            · next hs0 =>
              split at hr
              · next ns f hxt =>
                split at hr
                · cases hr
                · next hs4 =>
                  cases hr
                  obtain ⟨⟨q1, q2⟩, ty, q3, q4, -⟩ := e10 _ _ _ _ hxt
                  cases q4 rfl
                  simp only [List.map_cons, ij_cv_cell B c1, ij_cv_out B q1 q2]
                  refine ij_copyt hx hb hml.symm hown (hts _ g1) (hts _ g2) (hts _ g3) (hts _ g4) hK hP hD hS q3 d 0 (c1 := aC 0) (n1 := nd) (g := h.2.1 d) (ij_ws_at hdh) rfl c2 c3 c4 (by omega) (by omega) g5 hloc hd (fun H1 locs1 hP1 hS1 => ?_)
                  rw [ij_ws_set (m' := (ij_row h.2.1 d (va_cpy f (h.2.1 d) sp.toNatClampNeg dp.toNatClampNeg n.toNatClampNeg), h.2.2)) hdh (by show Sum.inl (aC 0, nd, Sum.inl (ij_row h.2.1 d _ d)) = _; rw [ij_row_eq]) (fun i hi => ij_row_ne hi) (fun _ _ => rfl) (fun _ _ => rfl)] at hP1
                  exact k H1 locs1 cells slots rfl rfl hP1 hS1
              · cases hr
        · next nd hdh =>
          split at hr
          · cases hr
          · next hd5 =>
            split at hr
            · next hs0 =>
              split at hr
              · next ns hsh =>
                split at hr
                · cases hr
                · next hs4 =>
                  cases hr
                  simp only [List.map_cons, ij_cv_cell B c1, ij_cv_cell B hs0]
                  refine va_copyl hx hb hml.symm hown (hts _ g1) (hts _ g2) (hts _ g3) (hts _ g4) hK hP hD hS s0 d 1 1 (c0 := aC 1) (c1 := aC 1) (n0 := ns) (n1 := nd) (f := h.2.2.1 s0) (g := h.2.2.1 d) (ty := .long) (ij_ws_at hsh) (ij_ws_at hdh) rfl rfl rfl c2 c3 c4 (by omega) (by omega) (fun _ _ => rfl) g5 hloc hd (fun H1 locs1 hP1 hD1 hS1 => ?_)
                  rw [ij_ws_set (m' := (h.2.1, ij_row h.2.2.1 d (va_cpy (h.2.2.1 s0) (h.2.2.1 d) sp.toNatClampNeg dp.toNatClampNeg n.toNatClampNeg), h.2.2.2)) hdh (by show Sum.inl (aC 1, nd, Sum.inr (Sum.inl (ij_row h.2.2.1 d _ d))) = _; rw [ij_row_eq]) (fun _ _ => rfl) (fun i hi => ij_row_ne hi) (fun _ _ => rfl)] at hP1
                  exact k H1 locs1 cells slots rfl rfl hP1 hS1
              · cases hr
            · cases hr
        · cases hr
      · cases hr
    · cases hr
  · cases hr
end IJ
end
section
/-! Runs of the small machine are runs of the machine. -/
abbrev ij_Z : Type := (Nat → MethodName) × (Nat → ByteArray) × (Nat → Option FieldType) × (Nat → Nat) × (Nat → Nat) × Nat
def ij_rok (rt : Option FieldType) (k : Nat) : Prop := match k with
  | 0 => rt = none
  | 1 => rt = some .int
  | 2 => rt = some .long
  | 3 => rt = some .boolean
  | 4 => rt = some .byte
  | 5 => rt = some .char
  | _ => ∃ t, rt = some t ∧ ((∃ n, t = .object n) ∨ ∃ u, t = .array u)
def ij_room (Z : ij_Z) (y mc ms : Nat) : Room := { frames := Z.2.2.2.1 y, cells := mc, slots := ms, locals := Z.2.2.2.2.1 y }
/-- what a call's row must hold of the tables -/
def ij_okB (G : ij_G) (Z : ij_Z) (gw : List Cond) (y a b : Nat) : Prop :=
  a < Z.2.2.2.2.2 ∧ Cond.initialized (Z.1 a).cls ∈ gw ∧ Cond.code (Z.1 a) (Z.2.1 a) (G.2.1 a) (Z.2.2.1 a) ∈ gw ∧ ((Z.1 a).cls ≠ "java/lang/invoke/MethodHandle" ∧ (Z.1 a).cls ≠ "java/lang/invoke/VarHandle" ∧ (parseMethodDescriptor (Z.1 a).desc).map (fun d => d.parameters.length) = some b) ∧ (Z.2.2.2.1 a + 1 ≤ Z.2.2.2.1 y ∧ 8 + (G.2.1 a + 11) + Z.2.2.2.2.1 a ≤ Z.2.2.2.2.1 y)
def ij_okC (G : ij_G) (Z : ij_Z) (X : ij_Cx) (gw : List Cond) (n2 : ij_N2) (y : Nat) (i : Instr) (a b c : Nat) : Prop := match i with
  | .invokevirtual idx => 10 ≤ c → (ij_okB G Z gw y a b ∧ Cond.methodLink (Z.1 y).cls idx (Z.1 a) ∈ gw ∧ Cond.instanceMethod (Z.1 a) ∈ gw ∧ Cond.selects (Z.1 a).cls (Z.1 a) (Z.1 a) ∈ gw ∧ (Z.1 a).cls = (if c = 30 then "java/lang/String" else X.1 (c - 10)))
  | .invokestatic idx => (c = 1 → (ij_okB G Z gw y a b ∧ Cond.methodLink (Z.1 y).cls idx (Z.1 a) ∈ gw ∧ Cond.static (Z.1 a) ∈ gw)) ∧ (c = 4 → (ij_okB G Z gw y a b ∧ Cond.static (Z.1 a) ∈ gw ∧ ∃ hst, ((Z.1 y).cls, idx, Z.1 a, hst) ∈ n2))
  | .invokespecial idx => (c = 2 → (ij_okB G Z gw y a b ∧ Cond.methodLink (Z.1 y).cls idx (Z.1 a) ∈ gw ∧ Cond.instanceMethod (Z.1 a) ∈ gw ∧ (Z.1 a).name = "<init>" ∧ Z.2.2.1 a = none)) ∧ (c = 3 → (ij_okB G Z gw y a b ∧ Cond.instanceMethod (Z.1 a) ∈ gw ∧ (Z.1 a).name = "<init>" ∧ Z.2.2.1 a = none ∧ ∃ hst, ((Z.1 y).cls, idx, Z.1 a, hst) ∈ n2))
  | _ => True
def ij_okE (G : ij_G) (Z : ij_Z) (X : ij_Cx) (gw : List Cond) (n1 : ij_N1) (n2 : ij_N2) (sr : ij_S1) (y : Nat) (q : Nat × ij_E) : Prop :=
  decode (Z.2.1 y) q.1 = .ok (q.2.1, q.2.2.1) ∧ (q.2.2.1 = ij_len q.2.1 ∨ ∃ d lo hi os, q.2.1 = .tableswitch d lo hi os) ∧ ij_jok q.1 q.2.1 = true
  ∧ ij_okR X gw n1 sr (Z.1 y).cls (ij_room Z y 0 0) q.2.1 q.2.2.2.1 q.2.2.2.2.1 ∧ ij_okW X gw (Z.1 y).cls ((Z.1 y).name = "<init>") (ij_room Z y 0 0) q.2.1 q.2.2.2.1 q.2.2.2.2.1 ∧ ij_okC G Z X gw n2 y q.2.1 q.2.2.2.1 q.2.2.2.2.1 q.2.2.2.2.2
def ij_Ok (G : ij_G) (Z : ij_Z) (X : ij_Cx) (ty0 : Nat → Nat → FieldType) (gw : List Cond) (n1 : ij_N1) (n2 : ij_N2) (sr : ij_S1) (cl : List vw_C) : Prop :=
  (∀ ci, ci < 12 → cl[ci]? = some (X.1 ci, X.2.1 ci, X.2.2 ci)) ∧ (∀ ci, ci < 12 → ∀ w ∈ u_ws (X.1 ci) (X.2.1 ci) (X.2.2 ci), w ∈ gw)
  ∧ (∀ ci, ci < 12 → ∀ k, k < X.2.2 ci → parseFieldDescriptor (X.2.1 ci k).2.2.1 = some (ty0 ci k)) ∧ (∀ ci, ci < 12 → ∀ k, k < X.2.2 ci → ij_tk (ty0 ci k) = G.2.2.2 ci k) ∧ (∀ ci, ci < 12 → ∀ k, k < X.2.2 ci → G.2.2.2 ci k < 4)
  ∧ (∀ ci, ci < 12 → ∀ a, a < X.2.2 ci → ∀ b, b < X.2.2 ci → a ≠ b → (X.2.1 ci a).2.1 ≠ (X.2.1 ci b).2.1) ∧ (X.1 8 = "ScaleForge$Tray" ∧ X.1 4 = "ScaleForge$Scale" ∧ X.1 6 = "ScaleForge$Studies")
  ∧ (∀ w ∈ gw, (w.onTables && w.keeps) = true ∨ ∃ ty, w = .arrayClass ty)
  ∧ ∀ y, y < Z.2.2.2.2.2 → (plainName (Z.1 y).cls = true ∧ ij_rok (Z.2.2.1 y) (G.2.2.1 y) ∧ ∀ q ∈ G.1 y, ij_okE G Z X gw n1 n2 sr y q)
def ij_wsA (G : ij_G) (Z : ij_Z) (gw : List Cond) (y : Nat) : List Cond := Cond.code (Z.1 y) (Z.2.1 y) (G.2.1 y) (Z.2.2.1 y) :: gw
def ij_Wd (B : ij_B) (D : va_G) (cl : List vw_C) (aC : Nat → ClassId) (n1 : ij_N1) (n2 : ij_N2) (sr : ij_S1) (xt : ij_X) (tt : Nat → Nat → Nat) (h : ij_H) (U : State) : Prop :=
  U.heap.size = B.1 + h.1.length ∧ va_P D cl (ij_ws B tt aC h) U.heap ∧ ij_Ev B D cl aC n1 n2 sr xt U
def ij_Q (B : ij_B) (D : va_G) (cl : List vw_C) (aC : Nat → ClassId) (tt : Nat → Nat → Nat) (r : Option Value) (h' : ij_H) : Array Value → State → Outcome → State → Prop := fun _ st o t =>
  o = .returned (r.map (ij_cv B)) ∧ va_P D cl (ij_ws B tt aC h') t.heap ∧ va_F (ij_A B) st t
def ij_Walk (l : Launch) (G : ij_G) (Z : ij_Z) (gw : List Cond) (n1 : ij_N1) (n2 : ij_N2) (sr : ij_S1) (cl : List vw_C) (B : ij_B) (D : va_G) (aC : Nat → ClassId) (xt : ij_X) (n : Nat) : Prop :=
  ∀ (y pc : Nat) (L : ij_L) (st : List Value) (h : ij_H) (r : Option Value) (h' : ij_H), y < Z.2.2.2.2.2 → ij_run G xt n y pc L st h = some (r, h') → (h.1.length ≤ h'.1.length ∧ ij_sl h ≤ ij_sl h') ∧
  ∀ (p : Program) (e : Env) (R : Room) (s : State) (m : MethodId) (args : Array Value) (below : List Frame) (meth : Method) (c : Code) (H : Heap) (locs : List Loc) (cells slots mc ms : Nat) (Q : State → Prop) (ls : Array Slot),
    p.tables.exec = Jvm.exec → c.code = Z.2.1 y → c.maxLocals = G.2.1 y → s.vm.findClass (Z.1 y).cls = some m.cls → (∀ w ∈ gw, w.before args s = true) → meth.name = (Z.1 y).name → Z.2.2.2.1 y ≤ R.frames → Z.2.2.2.2.1 y ≤ R.locals → ij_Ev B D cl aC n1 n2 sr xt s → B.1 ≤ s.heap.size →
    va_P D cl (ij_ws B G.2.2.2 aC h) H → va_S (ij_A B) s.heap H locs → ij_LH B ls (G.2.1 y) L → s.heap.size + cells = B.1 + h.1.length → mc + h.1.length = cells + h'.1.length → ms + ij_sl h = slots + ij_sl h' → mc ≤ R.cells → ms ≤ R.slots →
    (∀ (i : Instr) (pc : Nat) (ls : Array Slot) (st : List Value) (H : Heap) (locs : List Loc), decode (Z.2.1 y) pc = .ok (i, 1) → ij_rI (G.2.2.1 y) i st = some r → va_P D cl (ij_ws B G.2.2.2 aC h') H → va_S (ij_A B) s.heap H locs → W p l e R s m args below meth c H locs mc ms Q (F0 m pc ls (st.map (ij_cv B)))) →
    W p l e R s m args below meth c H locs cells slots Q (F0 m pc ls (st.map (ij_cv B)))
theorem ij_okR_mono {X : ij_Cx} {gw : List Cond} {n1 : ij_N1} {sr : ij_S1} {own : String} {R0 R : Room} {i : Instr} {a b : Nat} (h : ij_okR X gw n1 sr own R0 i a b) (h1 : R0.frames ≤ R.frames) (h2 : R0.locals ≤ R.locals) : ij_okR X gw n1 sr own R i a b := by
  unfold ij_okR at h ⊢
  cases i <;> first | exact h | (intro ha; obtain ⟨g1, g2, g3, g4, g5⟩ := h ha; exact ⟨g1, g2, g3, Nat.le_trans g4 h1, Nat.le_trans g5 h2⟩)
theorem ij_okW_mono {X : ij_Cx} {gw : List Cond} {own : String} {ini : Prop} {R0 R : Room} {i : Instr} {a b : Nat} (h : ij_okW X gw own ini R0 i a b) (h1 : R0.frames ≤ R.frames) (h2 : R0.locals ≤ R.locals) : ij_okW X gw own ini R i a b := by
  unfold ij_okW at h ⊢
  cases i <;> first | exact h | (intro ha; obtain ⟨g1, g2, g3, g4, g5, g6⟩ := h ha; exact ⟨g1, g2, g3, g4, Nat.le_trans g5 h1, Nat.le_trans g6 h2⟩)
theorem ij_lookup_mem {k : Nat} {v : ij_E} : ∀ {l : List (Nat × ij_E)}, l.lookup k = some v → (k, v) ∈ l
  | [], h => by cases h
  | (a, b) :: t, h => by
    rw [List.lookup_cons] at h
    split at h
    · next e =>
      cases h
      rw [show k = a from by simpa using e]
      exact List.mem_cons_self
    · exact List.mem_cons_of_mem _ (ij_lookup_mem h)
theorem ij_put_len {t : Nat} {mm m' : ij_M} {j k : Nat} {v : Value} (_ : ij_put t mm j k v = some m') : True := trivial
set_option maxHeartbeats 2000000 in
theorem ij_hW_mono {tt : Nat → Nat → Nat} {xt : ij_X} {i : Instr} {a b : Nat} {st st' : List Value} {h h' : ij_H} (hr : ij_hW tt xt i a b st h = some (st', h')) : h.1.length ≤ h'.1.length ∧ ij_sl h ≤ ij_sl h' := by
  have hnew : ∀ kd n, h.1.length ≤ (ij_new h kd n).1.length ∧ ij_sl h ≤ ij_sl (ij_new h kd n) := by
    intro kd n
    rw [ij_sl_new]
    simp [ij_new]
  have hsame : ∀ m', h.1.length ≤ ((h.1, m') : ij_H).1.length ∧ ij_sl h ≤ ij_sl (h.1, m') := fun m' => ⟨Nat.le_refl _, Nat.le_refl _⟩
  unfold ij_hW at hr
  repeat' split at hr
  all_goals first
    | (cases hr; done)
    | (cases hr; exact hsame _)
    | (cases hr; exact hnew _ _)
    | (obtain ⟨m', -, e0⟩ := Option.map_eq_some_iff.mp hr; cases e0; exact hsame _)
end
section
/-! The theorem: by the number of steps. -/
section IJ
variable {l : Launch} {G : ij_G} {Z : ij_Z} {X : ij_Cx} {ty0 : Nat → Nat → FieldType} {gw : List Cond} {n1 : ij_N1} {n2 : ij_N2} {sr : ij_S1} {cl : List vw_C} {B : ij_B} {D : va_G} {aC : Nat → ClassId} {xt : ij_X}
theorem ij_ent_LH (hB : B.2.2.category = 1) {nL : Nat} {as : List Value} {l0 : ij_L} (h : ij_entry nL as = some l0) : ij_LH B ((lg_sl (as.map (ij_cv B)) ++ List.replicate (nL - (lg_sl (as.map (ij_cv B))).length) Slot.unset).toArray) nL l0 := by
  unfold ij_entry at h
  split at h
  · next hle =>
    cases h
    have hl := lv_entry (as.map (ij_cv B)) (n := nL) (by rw [ij_ent_len B hB]; exact hle)
    refine ⟨by simp; omega, hl.1, hl.2.1, fun q hq => hl.2.2 q ?_⟩
    obtain ⟨v, hv, e⟩ := ij_al_mem.mp hq
    by_cases hi : q.1 < (ij_ent as).length
    · rw [List.getElem?_append_left hi] at hv
      have := ij_ent_args B hB as 0 q.1 v hv
      rw [Nat.zero_add] at this
      have e2 : q = (q.1, ij_cv B v) := by rw [← e]
      rw [e2]
      exact this
    · rw [List.getElem?_append_right (by omega), List.getElem?_replicate] at hv
      split at hv <;> cases hv
  · cases h
theorem ij_met (hok : ij_Ok G Z X ty0 gw n1 n2 sr cl) (hB : B.2.2.category = 1) {n : Nat} (hw : ij_Walk l G Z gw n1 n2 sr cl B D aC xt n) {a : Nat} {as : List Value} {l0 : ij_L} {h h' : ij_H} {r : Option Value} (ha : a < Z.2.2.2.2.2) (hl0 : ij_entry (G.2.1 a) as = some l0) (hr : ij_run G xt n a 0 l0 [] h = some (r, h')) {mc ms : Nat} (hmc : mc + h.1.length = h'.1.length) (hms : ms + ij_sl h = ij_sl h') :
    Met l (Z.1 a) (ij_wsA G Z gw a) (ij_room Z a mc ms) (va_Pc (as.map (ij_cv B)) (ij_Wd B D cl aC n1 n2 sr xt G.2.2.2 h)) (ij_Q B D cl aC G.2.2.2 r h') mc ms (ij_A B) := by
  obtain ⟨-, -, -, -, -, -, -, -, hmeth⟩ := hok
  obtain ⟨hplain, hrok, -⟩ := hmeth a ha
  refine Met.ofW (cc := Z.2.1 a) (maxL := G.2.1 a) (ret := Z.2.2.1 a) hplain rfl ?_
  intro p e s m args below meth c s₁ Bd hml hv
  obtain ⟨rfl, hsz, hP, hE⟩ := hv
  have hts := atoms_spec (ws := ij_wsA G Z gw a) Bd.pre
  rw [lg_entry_eq]
  obtain ⟨-, hW⟩ := hw a 0 l0 [] h r h' ha hr
  refine hW p e _ s m _ below meth c s.heap [] 0 0 mc ms _ _ Bd.exec Bd.bytes hml (findClass_of_methodNamed Bd.named) (fun w hw => hts w (List.mem_cons_of_mem _ hw)) (name_of_methodNamed Bd.named Bd.method).1 (Nat.le_refl _) (Nat.le_refl _) hE (by omega) hP va_S.rf (ij_ent_LH hB hl0) (by omega) (by omega) (by omega) (Nat.le_refl _) (Nat.le_refl _) ?_
  intro i pc ls st H locs hd hri hP' hS'
  have hret := Bd.returns
  have hlocks := Bd.notSynchronized
  have hq : ∀ (v : Option Value), v = r.map (ij_cv B) → ∀ t : State, t.heap = H → s.WarmedH t.vm → ij_Q B D cl aC G.2.2.2 r h' (as.map (ij_cv B)).toArray s (.returned v) t := fun v hv t ht _ => ⟨by rw [hv], by rw [ht]; exact hP', hS'.F ht⟩
  unfold ij_rI at hri
  split at hri
  · split at hri
    · next hk =>
      cases hri
      rw [hk] at hrok
      exact W.vret Bd.exec Bd.bytes (hret.trans hrok) (hq none rfl) hS'.2.2 hd
    · cases hri
  · split at hri
    · next x =>
      split at hri
      · next hk =>
        cases hri
        rw [hk] at hrok
        exact W.iret Bd.exec Bd.bytes (hret.trans hrok) (hq _ rfl) hS'.2.2 hd
      · next hk =>
        split at hri
        · next hx =>
          cases hri
          rw [hk] at hrok
          exact W.zret Bd.exec Bd.bytes (hret.trans hrok) (by rcases hx with rfl | rfl <;> decide) (hq _ rfl) hS'.2.2 hd
        · cases hri
      · next hk =>
        split at hri
        · next hx =>
          cases hri
          rw [hk] at hrok
          exact W.zret Bd.exec Bd.bytes (hret.trans hrok) hx (hq _ rfl) hS'.2.2 hd
        · cases hri
      · next hk =>
        split at hri
        · next hx =>
          cases hri
          rw [hk] at hrok
          exact W.zret Bd.exec Bd.bytes (hret.trans hrok) hx (hq _ rfl) hS'.2.2 hd
        · cases hri
      · cases hri
    · cases hri
  · split at hri
    · next hk =>
      cases hri
      rw [hk] at hrok
      exact W.lret Bd.exec Bd.bytes (hret.trans hrok) (hq _ rfl) hS'.2.2 hd
    · cases hri
  · split at hri
    · next x hk =>
      split at hri
      · cases hri
      · next hx =>
        cases hri
        rw [hk] at hrok
        obtain ⟨t, ht, htt⟩ := hrok
        rw [List.map_cons, ij_cv_ref B hx]
        exact W.aret (v := .ref (ij_ad B x)) Bd.exec Bd.bytes (hret.trans ht) htt (Or.inr ⟨_, rfl⟩) (hq _ (by show _ = some (ij_cv B (.ref x)); rw [ij_cv_ref B hx])) hS'.2.2 hd
    · next hk =>
      cases hri
      rw [hk] at hrok
      obtain ⟨t, ht, htt⟩ := hrok
      exact W.aret (v := .null) Bd.exec Bd.bytes (hret.trans ht) htt (Or.inl rfl) (hq _ rfl) hS'.2.2 hd
    · cases hri
  · cases hri
end IJ
section IJ2
variable {p : Program} {l : Launch} {e : Env} {R : Room} {s : State} {m : MethodId} {args : Array Value} {below : List Frame} {meth : Method} {c : Code} {H : Heap} {locs : List Loc} {cells slots : Nat} {Q : State → Prop}
variable {pc : Nat} {ls : Array Slot} {B : ij_B} {D : va_G} {cl : List vw_C} {aC : Nat → ClassId} {tt : Nat → Nat → Nat} {n1 : ij_N1} {n2 : ij_N2} {sr : ij_S1} {xt : ij_X}
theorem ij_after {mc1 ms1 : Nat} {st0 rest : List Value} {r1 : Option Value} {h1 : ij_H} {a0 : Array Value} (hrun : va_Run p l e R s m args below meth c H locs cells slots mc1 ms1 (F0 m pc ls st0) (rest.map (ij_cv B)) (ij_Q B D cl aC tt r1 h1 a0) (ij_A B)) (hS : va_S (ij_A B) s.heap H locs)
    (kk : ∀ (H1 : Heap) (locs1 : List Loc), va_P D cl (ij_ws B tt aC h1) H1 → va_S (ij_A B) s.heap H1 locs1 → W p l e R s m args below meth c H1 locs1 (cells + mc1) (slots + ms1) Q (F0 m (pc + 3) ls ((r1.toList ++ rest).map (ij_cv B)))) : W p l e R s m args below meth c H locs cells slots Q (F0 m pc ls st0) := by
  intro T hT Y
  obtain ⟨v, st₀, t, T', L, h0, Y', hL, e1, e2, ⟨hv, hp, hz, hk⟩, st⟩ := hrun T hT Y
  cases hv
  rw [h0] at hz hk
  have hS1 : va_S (ij_A B) s.heap T'.heap (locs ++ L) := by
    refine ⟨Nat.le_trans hS.1 (by rw [e1]; exact hz), fun q g1 g2 => ?_, fun q hq => ?_⟩
    · rw [e1, hk q (Nat.lt_of_lt_of_le g1 hS.1) g2]
      exact hS.2.1 q g1 g2
    · rcases List.mem_append.mp hq with g | g
      · exact hS.2.2 q g
      · exact hL q g
  obtain ⟨t2, a1, b1⟩ := kk T'.heap (locs ++ L) (by rw [e1]; exact hp) hS1 T' rfl Y'
  refine ⟨t2, st t2 ?_, b1⟩
  have e3 : (r1.map (ij_cv B)).toList ++ rest.map (ij_cv B) = (r1.toList ++ rest).map (ij_cv B) := by cases r1 <;> rfl
  rw [e3]
  exact a1
theorem ij_low {h : ij_H} (hP : va_P D cl (ij_ws B tt aC h) H) (hS : va_S (ij_A B) s.heap H locs) (hbase : B.1 ≤ s.heap.size) : B.1 + h.1.length ≤ H.size := by
  cases hh : h.1.length with
  | zero => exact Nat.le_trans hbase hS.1
  | succ k =>
    obtain ⟨sh, hsh⟩ : ∃ sh, h.1[k]? = some sh := ⟨_, List.getElem?_eq_getElem (by omega)⟩
    have := (hP k _ (ij_ws_at hsh)).lt
    dsimp only at this
    omega
theorem ij_blind (as : List Value) (h : ij_H) : FrameBlind (va_Pc as (ij_Wd B D cl aC n1 n2 sr xt tt h)) := by
  intro a U g mk q
  obtain ⟨q0, q1, q2, q3⟩ := q
  exact ⟨q0, q1, q2, q3.move (fun _ _ _ => rfl) (State.WarmedH.refl U)⟩
theorem ij_pre {as : List Value} {h : ij_H} (hE : ij_Ev B D cl aC n1 n2 sr xt s) (hP : va_P D cl (ij_ws B tt aC h) H) (hS : va_S (ij_A B) s.heap H locs) (hbase : B.1 ≤ s.heap.size) (hs : H.size ≤ s.heap.size + cells) (hsz : s.heap.size + cells = B.1 + h.1.length) : ∀ U : State, U.heap = H → s.WarmedH U.vm → va_Pc as (ij_Wd B D cl aC n1 n2 sr xt tt h) as.toArray U := by
  intro U hU hW
  have := ij_low hP hS hbase
  exact ⟨rfl, by rw [hU]; omega, by rw [hU]; exact hP, hE.move (fun a g1 g2 => by rw [hU]; exact hS.2.1 a g1 g2) hW⟩
end IJ2
end
section
/-! All runs: by induction on the number of steps. -/
theorem ij_split {st : List Value} {n : Nat} {v : Value} (h : st[n]? = some v) : st = st.take n ++ v :: st.drop (n + 1) ∧ (st.take (n + 1)).reverse = v :: (st.take n).reverse ∧ (st.take n).length = n := by
  obtain ⟨hn, he⟩ := List.getElem?_eq_some_iff.mp h
  refine ⟨?_, ?_, by simp; omega⟩
  · rw [← he, List.drop_eq_getElem_cons hn |>.symm, List.take_append_drop]
  · rw [List.take_succ_eq_append_getElem hn, he]
    simp
section IJ
variable {l : Launch} {G : ij_G} {Z : ij_Z} {X : ij_Cx} {ty0 : Nat → Nat → FieldType} {gw : List Cond} {n1 : ij_N1} {n2 : ij_N2} {sr : ij_S1} {cl : List vw_C} {B : ij_B} {D : va_G} {aC : Nat → ClassId} {xt : ij_X}
theorem ij_good (hok : ij_Ok G Z X ty0 gw n1 n2 sr cl) {a : Nat} (hc : Cond.code (Z.1 a) (Z.2.1 a) (G.2.1 a) (Z.2.2.1 a) ∈ gw) : GoodIn gw (ij_wsA G Z gw a) := by
  obtain ⟨-, -, -, -, -, -, -, hg, -⟩ := hok
  intro w hw
  rcases List.mem_cons.mp hw with rfl | hw
  · exact ⟨hc, hg _ hc⟩
  · exact ⟨hw, hg _ hw⟩
/-- behind the choice of the callee: what its run gives -/
theorem ij_step_call (hok : ij_Ok G Z X ty0 gw n1 n2 sr cl) (hB : B.2.2.category = 1) {n : Nat} (ih : ij_Walk l G Z gw n1 n2 sr cl B D aC xt n) {y pc : Nat} {L : ij_L} {st as rest : List Value} {h h' : ij_H} {r : Option Value} (hy : y < Z.2.2.2.2.2) {a b : Nat} {l0 : ij_L} {z : Option Value × ij_H} (hl0 : ij_entry (G.2.1 a) as = some l0) (hz : ij_run G xt n a 0 l0 [] h = some z) (hr : ij_run G xt n y (pc + 3) L (z.1.toList ++ rest) z.2 = some (r, h')) (hb : ij_okB G Z gw y a b)
    (hrun : ∀ (p : Program) (e : Env) (R : Room) (s : State) (m : MethodId) (args : Array Value) (below : List Frame) (meth : Method) (c : Code) (H : Heap) (locs : List Loc) (cells slots mc1 ms1 : Nat) (ls : Array Slot), p.tables.exec = Jvm.exec → c.code = Z.2.1 y → c.maxLocals = G.2.1 y → s.vm.findClass (Z.1 y).cls = some m.cls → (∀ w ∈ gw, w.before args s = true) → ls.size = G.2.1 y → ij_Ev B D cl aC n1 n2 sr xt s → va_P D cl (ij_ws B G.2.2.2 aC h) H → va_S (ij_A B) s.heap H locs →
      Met l (Z.1 a) (ij_wsA G Z gw a) (ij_room Z a mc1 ms1) (va_Pc (as.map (ij_cv B)) (ij_Wd B D cl aC n1 n2 sr xt G.2.2.2 h)) (ij_Q B D cl aC G.2.2.2 z.1 z.2) mc1 ms1 (ij_A B) → ((ij_room Z a mc1 ms1).frames + 1 ≤ R.frames ∧ 8 + (G.2.1 a + 11) + (ij_room Z a mc1 ms1).locals ≤ R.locals) → cells + mc1 ≤ R.cells ∧ slots + ms1 ≤ R.slots →
      (∀ U : State, U.heap = H → s.WarmedH U.vm → va_Pc (as.map (ij_cv B)) (ij_Wd B D cl aC n1 n2 sr xt G.2.2.2 h) (as.map (ij_cv B)).toArray U) → va_Run p l e R s m args below meth c H locs cells slots mc1 ms1 (F0 m pc ls (st.map (ij_cv B))) (rest.map (ij_cv B)) (ij_Q B D cl aC G.2.2.2 z.1 z.2 (as.map (ij_cv B)).toArray) (ij_A B)) :
    (h.1.length ≤ h'.1.length ∧ ij_sl h ≤ ij_sl h') ∧
  ∀ (p : Program) (e : Env) (R : Room) (s : State) (m : MethodId) (args : Array Value) (below : List Frame) (meth : Method) (c : Code) (H : Heap) (locs : List Loc) (cells slots mc ms : Nat) (Q : State → Prop) (ls : Array Slot),
    p.tables.exec = Jvm.exec → c.code = Z.2.1 y → c.maxLocals = G.2.1 y → s.vm.findClass (Z.1 y).cls = some m.cls → (∀ w ∈ gw, w.before args s = true) → meth.name = (Z.1 y).name → Z.2.2.2.1 y ≤ R.frames → Z.2.2.2.2.1 y ≤ R.locals → ij_Ev B D cl aC n1 n2 sr xt s → B.1 ≤ s.heap.size →
    va_P D cl (ij_ws B G.2.2.2 aC h) H → va_S (ij_A B) s.heap H locs → ij_LH B ls (G.2.1 y) L → s.heap.size + cells = B.1 + h.1.length → mc + h.1.length = cells + h'.1.length → ms + ij_sl h = slots + ij_sl h' → mc ≤ R.cells → ms ≤ R.slots →
    (∀ (i : Instr) (pc : Nat) (ls : Array Slot) (st : List Value) (H : Heap) (locs : List Loc), decode (Z.2.1 y) pc = .ok (i, 1) → ij_rI (G.2.2.1 y) i st = some r → va_P D cl (ij_ws B G.2.2.2 aC h') H → va_S (ij_A B) s.heap H locs → W p l e R s m args below meth c H locs mc ms Q (F0 m pc ls (st.map (ij_cv B)))) →
    W p l e R s m args below meth c H locs cells slots Q (F0 m pc ls (st.map (ij_cv B))) := by
  obtain ⟨g1, g2, g3, g4, g5⟩ := hb
  obtain ⟨mono1, -⟩ := ih a 0 l0 [] h z.1 z.2 g1 hz
  obtain ⟨mono, hW⟩ := ih y (pc + 3) L _ z.2 r h' hy hr
  refine ⟨⟨Nat.le_trans mono1.1 mono.1, Nat.le_trans mono1.2 mono.2⟩, ?_⟩
  intro p e R s m args below meth c H locs cells slots mc ms Q ls hx hb hml hown hts hname hfr hlo hE hbase hP hS hLH hsz hmc hms hrc hrs hret
  refine ij_W_size (fun hs => ?_)
  have hM := ij_met hok hB ih g1 hl0 hz (mc := z.2.1.length - h.1.length) (ms := ij_sl z.2 - ij_sl h) (by omega) (by omega)
  refine ij_after (hrun p e R s m args below meth c H locs cells slots _ _ ls hx hb hml hown hts hLH.2.1 hE hP hS hM ⟨Nat.le_trans g5.1 hfr, Nat.le_trans g5.2 hlo⟩ ⟨by omega, by omega⟩ (ij_pre hE hP hS hbase hs hsz)) hS (fun H1 locs1 hP1 hS1 => ?_)
  exact hW p e R s m args below meth c H1 locs1 _ _ mc ms Q ls hx hb hml hown hts hname hfr hlo hE hbase hP1 hS1 hLH (by omega) (by omega) (by omega) hrc hrs hret
set_option maxHeartbeats 4000000 in
theorem ij_walk (hok : ij_Ok G Z X ty0 gw n1 n2 sr cl) (hB : B.2.2.category = 1) : ∀ n, ij_Walk l G Z gw n1 n2 sr cl B D aC xt n := by
  intro n
  induction n with
  | zero => intro y pc L st h r h' hy hr; rw [ij_run] at hr; cases hr
  | succ n ih =>
    intro y pc L st h r h' hy hr
    obtain ⟨hcl, hcw, hty, htk, ht4, hnm, hcn, hgood, hmeth⟩ := id hok
    rw [ij_run] at hr
    split at hr
    · cases hr
    · next i len a b c hlk =>
      obtain ⟨hdec, hlen, hjok, hokR, hokW, hokC⟩ := (hmeth y hy).2.2 _ (ij_lookup_mem hlk)
      dsimp only at hdec hlen hjok hokR hokW hokC
      split at hr
      · next q hq =>
        have hl : len = ij_len i := hlen.resolve_right (fun ⟨d, lo, hi, os, e⟩ => by subst e; cases hq)
        subst hl
        obtain ⟨mono, hW⟩ := ih y _ q.1 q.2 h r h' hy hr
        refine ⟨mono, ?_⟩
        intro p e R s m args below meth c H locs cells slots mc ms Q ls hx hb hml hown hts hname hfr hlo hE hbase hP hS hLH hsz hmc hms hrc hrs hret
        exact ij_sL_ok hB hx hb hdec hLH hq (fun ls' hL' => hW p e R s m args below meth c H locs cells slots mc ms Q ls' hx hb hml hown hts hname hfr hlo hE hbase hP hS hL' hsz hmc hms hrc hrs hret)
      · split at hr
        · next q hq =>
          have hl : len = ij_len i := hlen.resolve_right (fun ⟨d, lo, hi, os, e⟩ => by subst e; unfold ij_sA at hq; split at hq <;> cases hq)
          subst hl
          obtain ⟨mono, hW⟩ := ih y _ L q h r h' hy hr
          refine ⟨mono, ?_⟩
          intro p e R s m args below meth c H locs cells slots mc ms Q ls hx hb hml hown hts hname hfr hlo hE hbase hP hS hLH hsz hmc hms hrc hrs hret
          exact ij_sA_ok hx hb hdec hq (hW p e R s m args below meth c H locs cells slots mc ms Q ls hx hb hml hown hts hname hfr hlo hE hbase hP hS hLH hsz hmc hms hrc hrs hret)
        · split at hr
          · next q hq =>
            obtain ⟨mono, hW⟩ := ih y _ L q.2 h r h' hy hr
            refine ⟨mono, ?_⟩
            intro p e R s m args below meth c H locs cells slots mc ms Q ls hx hb hml hown hts hname hfr hlo hE hbase hP hS hLH hsz hmc hms hrc hrs hret
            exact ij_bI_ok hx hb hdec hlen hjok hq (hW p e R s m args below meth c H locs cells slots mc ms Q ls hx hb hml hown hts hname hfr hlo hE hbase hP hS hLH hsz hmc hms hrc hrs hret)
          · split at hr
            · next q hq =>
              have hl : len = ij_len i := hlen.resolve_right (fun ⟨d, lo, hi, os, e⟩ => by subst e; cases hq)
              subst hl
              obtain ⟨mono, hW⟩ := ih y _ L q h r h' hy hr
              refine ⟨mono, ?_⟩
              intro p e R s m args below meth c H locs cells slots mc ms Q ls hx hb hml hown hts hname hfr hlo hE hbase hP hS hLH hsz hmc hms hrc hrs hret
              exact ij_hR_ok hB hcl hcw hx hb hdec hown hts hE hP hS (hLH.2.1.trans hml.symm) (ij_okR_mono hokR hfr hlo) hq (hW p e R s m args below meth c H locs cells slots mc ms Q ls hx hb hml hown hts hname hfr hlo hE hbase hP hS hLH hsz hmc hms hrc hrs hret)
            · split at hr
              · next q hq =>
                have hl : len = ij_len i := hlen.resolve_right (fun ⟨d, lo, hi, os, e⟩ => by subst e; cases hq)
                subst hl
                obtain ⟨mono, hW⟩ := ih y _ L q h r h' hy hr
                refine ⟨mono, ?_⟩
                intro p e R s m args below meth c H locs cells slots mc ms Q ls hx hb hml hown hts hname hfr hlo hE hbase hP hS hLH hsz hmc hms hrc hrs hret
                exact ij_sB_ok hB hx hb hdec hq (hW p e R s m args below meth c H locs cells slots mc ms Q ls hx hb hml hown hts hname hfr hlo hE hbase hP hS hLH hsz hmc hms hrc hrs hret)
              · split at hr
                · next q hq =>
                  have hl : len = ij_len i := hlen.resolve_right (fun ⟨d, lo, hi, os, e⟩ => by subst e; cases hq)
                  subst hl
                  obtain ⟨mono, hW⟩ := ih y _ L q.1 q.2 r h' hy hr
                  have mono1 := ij_hW_mono hq
                  refine ⟨⟨Nat.le_trans mono1.1 mono.1, Nat.le_trans mono1.2 mono.2⟩, ?_⟩
                  intro p e R s m args below meth c H locs cells slots mc ms Q ls hx hb hml hown hts hname hfr hlo hE hbase hP hS hLH hsz hmc hms hrc hrs hret
                  refine ij_hW_ok hB hcl hcw hty htk ht4 hnm hcn hx hb hdec hown hts hE hP hS (hLH.2.1.trans hml.symm) (fun hi => hname.trans hi) hsz hbase ⟨by omega, by omega⟩ (ij_okW_mono hokW hfr hlo) hq ?_
                  intro H1 locs1 cells1 slots1 hc1 hs1 hP1 hS1
                  exact hW p e R s m args below meth c H1 locs1 cells1 slots1 mc ms Q ls hx hb hml hown hts hname hfr hlo hE hbase hP1 hS1 hLH (by omega) (by omega) (by omega) hrc hrs hret
                · split at hr
                  · next q hq =>
                    cases hr
                    refine ⟨⟨Nat.le_refl _, Nat.le_refl _⟩, ?_⟩
                    intro p e R s m args below meth c H locs cells slots mc ms Q ls hx hb hml hown hts hname hfr hlo hE hbase hP hS hLH hsz hmc hms hrc hrs hret
                    have e1 : mc = cells := by omega
                    have e2 : ms = slots := by omega
                    subst e1
                    subst e2
                    have hl : len = 1 := by
                      rcases hlen with rfl | ⟨d, lo, hi, os, e⟩
                      · cases i <;> first | rfl | cases hq
                      · subst e; cases hq
                    subst hl
                    exact hret i pc ls st H locs hdec hq hP hS
                  · split at hr
                    · next q hq =>
                      split at hr
                      · next l0 hl0 =>
                        split at hr
                        · next z hz =>
                          unfold ij_cI at hq
                          split at hq
                          · -- virtual
                            next idx =>
                            split at hq
                            · next j hj =>
                              split at hq
                              · next hc =>
                                cases hq
                                obtain ⟨hB1, hl1, hi1, hs1, hc1⟩ := hokC (by rcases hc.1 with q | q <;> omega)
                                have hlen3 : len = 3 := by
                                  rcases hlen with q | ⟨_, _, _, _, e⟩
                                  · exact q
                                  · cases e
                                subst hlen3
                                obtain ⟨sp1, sp2, sp3⟩ := ij_split hj
                                refine ij_step_call hok hB ih hy hl0 hz hr hB1 ?_
                                intro p e R s m args below meth c' H locs cells slots mc1 ms1 ls hx hb hml hown hts hls hE hP hS hM hroom hf hpre
                                have hjn : ¬ j = 1999999 := by
                                  rcases hc.1 with q | q
                                  · exact fun e0 => absurd (e0 ▸ q.2.2.1) (by decide)
                                  · exact fun e0 => absurd (e0 ▸ q.2.2) (by decide)
                                have eas : ((st.take (b + 1)).reverse).map (ij_cv B) = .ref (ij_ad B j) :: ((st.take b).reverse).map (ij_cv B) := by
                                  rw [sp2, List.map_cons, ij_cv_ref B hjn]
                                rw [eas] at hM hpre ⊢
                                refine va_runV (C := (Z.1 a).cls) (As := ((st.take b).reverse).map (ij_cv B)) ⟨hx, hb, hml, hown, hts⟩ hM ⟨callB_of b hts (ij_good hok hB1.2.2.1) rfl rfl rfl (hts _ hB1.2.1) (hts _ hl1) hB1.2.2.2.1 hroom, hts _ hi1, hts _ hs1⟩ ⟨ij_blind _ _, ?_, hpre⟩ rfl (by simpa using sp3) hls ?_ (lv_room (by rw [ij_cv_sum B hB]; exact hc.2)) hdec hf
                                · rcases hc.1 with ⟨q1, q2, q3, q4⟩ | ⟨q1, q2, q3⟩
                                  · obtain ⟨sh, hsh, hfst⟩ := Option.map_eq_some_iff.mp q4
                                    have hw := ij_ws_at (B := B) (tt := G.2.2.2) (aC := aC) hsh
                                    obtain ⟨kd, nn⟩ := sh
                                    dsimp only at hfst
                                    subst hfst
                                    rw [show ij_cell B G.2.2.2 aC h.2 j (c - 10, nn) = .inr (c - 10, (List.range nn).map (fun k => ij_fc B (G.2.2.2 (c - 10) k) h.2 j k)) from if_pos (by show c - 10 < 100; omega)] at hw
                                    have := va_recv hE.1 hP (hcl (c - 10) (by omega)) hw
                                    rw [ij_ad_lt B q3, hc1, if_neg (by omega)]
                                    exact this
                                  · obtain ⟨j, rfl⟩ : ∃ j' : Nat, j' = j := ⟨_, rfl⟩
                                    have q2 : (1000010 : Nat) ≤ j := q2
                                    have q3 : j < (1000034 : Nat) := q3
                                    obtain ⟨-, -, -, -, -, -, -, -, e11, -⟩ := hE
                                    obtain ⟨cell, f1, f2, f3, -⟩ := (e11 (j - 1000010) (by omega)).1.kept hS.2.1
                                    rw [show 1000010 + (j - 1000010) = j by omega] at f1
                                    rw [ij_ad_ge B (by omega), hc1, if_pos q1]
                                    exact ⟨cell, f1, f2, f3⟩
                                · show st.map (ij_cv B) = _
                                  conv => lhs; rw [sp1]
                                  rw [List.map_append, List.map_cons, ij_cv_ref B hjn, ← List.map_reverse, List.reverse_reverse]
                              · cases hq
                            · cases hq
                          · -- static
                            next idx =>
                            split at hq
                            · next hc =>
                              cases hq
                              have hlen3 : len = 3 := by
                                rcases hlen with q | ⟨_, _, _, _, e⟩
                                · exact q
                                · cases e
                              subst hlen3
                              have hst : ∀ (f : Value → Value), st.map f = ((st.take b).reverse.map f).reverse ++ (st.drop b).map f := by
                                intro f
                                rw [← List.map_reverse, List.reverse_reverse, ← List.map_append, List.take_append_drop]
                              have hln : ((st.take b).reverse.map (ij_cv B)).length = b := by simp; omega
                              rcases hc.1 with rfl | rfl
                              · obtain ⟨hB1, hl1, hs1⟩ := hokC.1 rfl
                                refine ij_step_call hok hB ih hy hl0 hz hr hB1 ?_
                                intro p e R s m args below meth c' H locs cells slots mc1 ms1 ls hx hb hml hown hts hls hE hP hS hM hroom hf hpre
                                exact va_runS ⟨hx, hb, hml, hown, hts⟩ hM ⟨callB_of b hts (ij_good hok hB1.2.2.1) rfl rfl rfl (hts _ hB1.2.1) (hts _ hl1) hB1.2.2.2.1 hroom, hts _ hs1⟩ ⟨ij_blind _ _, hpre⟩ rfl hln hls (hst _) (lv_room (by rw [ij_cv_sum B hB]; exact hc.2.2)) hdec hf
                              · obtain ⟨hB1, hs1, hst', hn2⟩ := hokC.2 rfl
                                refine ij_step_call hok hB ih hy hl0 hz hr hB1 ?_
                                intro p e R s m args below meth c' H locs cells slots mc1 ms1 ls hx hb hml hown hts hls hE hP hS hM hroom hf hpre
                                exact va_runSN ⟨hx, hb, hml, hown, hts⟩ hM ⟨va_cnB b hts (ij_good hok hB1.2.2.1) rfl rfl rfl (hE.2.2.1 _ hn2) (hts _ hB1.2.1) hB1.2.2.2.1 hroom, hts _ hs1, trivial⟩ ⟨ij_blind _ _, hpre⟩ rfl hln hls (hst _) (lv_room (by rw [ij_cv_sum B hB]; exact hc.2.2)) hdec hf
                            · cases hq
                          · -- special
                            next idx =>
                            split at hq
                            · next j hj =>
                              split at hq
                              · next hc =>
                                cases hq
                                have hlen3 : len = 3 := by
                                  rcases hlen with q | ⟨_, _, _, _, e⟩
                                  · exact q
                                  · cases e
                                subst hlen3
                                obtain ⟨sp1, sp2, sp3⟩ := ij_split hj
                                have hjn : ¬ j = 1999999 := fun e0 => absurd (e0 ▸ hc.2.1) (by decide)
                                have eas : ((st.take (b + 1)).reverse).map (ij_cv B) = .ref (ij_ad B j) :: ((st.take b).reverse).map (ij_cv B) := by
                                  rw [sp2, List.map_cons, ij_cv_ref B hjn]
                                have hstk : st.map (ij_cv B) = (((st.take b).reverse).map (ij_cv B)).reverse ++ .ref (ij_ad B j) :: (st.drop (b + 1)).map (ij_cv B) := by
                                  conv => lhs; rw [sp1]
                                  rw [List.map_append, List.map_cons, ij_cv_ref B hjn, ← List.map_reverse, List.reverse_reverse]
                                rcases hc.1 with rfl | rfl
                                · obtain ⟨hB1, hl1, hi1, hn1, ht1⟩ := hokC.1 rfl
                                  refine ij_step_call hok hB ih hy hl0 hz hr hB1 ?_
                                  intro p e R s m args below meth c' H locs cells slots mc1 ms1 ls hx hb hml hown hts hls hE hP hS hM hroom hf hpre
                                  rw [eas] at hM hpre ⊢
                                  exact va_runI (As := ((st.take b).reverse).map (ij_cv B)) ⟨hx, hb, hml, hown, hts⟩ hM ⟨callB_of b hts (ij_good hok hB1.2.2.1) (by unfold ij_wsA; rw [ht1]) rfl rfl (hts _ hB1.2.1) (hts _ hl1) hB1.2.2.2.1 hroom, hn1, hts _ hi1⟩ ⟨ij_blind _ _, hpre⟩ rfl (by simpa using sp3) hls hstk (lv_room (by rw [ij_cv_sum B hB]; exact hc.2.2)) hdec hf
                                · obtain ⟨hB1, hi1, hn1, ht1, hst', hn2⟩ := hokC.2 rfl
                                  refine ij_step_call hok hB ih hy hl0 hz hr hB1 ?_
                                  intro p e R s m args below meth c' H locs cells slots mc1 ms1 ls hx hb hml hown hts hls hE hP hS hM hroom hf hpre
                                  rw [eas] at hM hpre ⊢
                                  exact va_runIN (As := ((st.take b).reverse).map (ij_cv B)) ⟨hx, hb, hml, hown, hts⟩ hM ⟨va_cnB b hts (ij_good hok hB1.2.2.1) (by unfold ij_wsA; rw [ht1]) rfl rfl (hE.2.2.1 _ hn2) (hts _ hB1.2.1) hB1.2.2.2.1 hroom, hn1, hts _ hi1⟩ ⟨ij_blind _ _, hpre⟩ rfl (by simpa using sp3) hls hstk (lv_room (by rw [ij_cv_sum B hB]; exact hc.2.2)) hdec hf
                              · cases hq
                            · cases hq
                          · cases hq
                        · cases hr
                      · cases hr
                    · cases hr
end IJ
end
