section
-- ===== PART A: goes FIRST, ahead of the names: the tables' words, and 'selects' of the private methods out of them =====
/-- a private method of a class that the tables say can be made, by its rows of tables_1 -/
def lw_okq (q : MethodName × Nat) : Prop := (q.1.cls ≠ "java/lang/invoke/MethodHandle" ∧ q.1.cls ≠ "java/lang/invoke/VarHandle") ∧ Cond.instantiable q.1.cls q.2 ∈ tables_1 ∧ Cond.privateMethod q.1 ∈ tables_1 ∧ Cond.instanceMethod q.1 ∈ tables_1
theorem lw_p0 : lw_okq (⟨"ScaleForge", "trayAt", "(I)LScaleForge$Tray;"⟩, 19) := ⟨⟨by decide +kernel, by decide +kernel⟩, List.mem_of_getElem? (i := 22) (by decide +kernel), List.mem_of_getElem? (i := 421) (by decide +kernel), List.mem_of_getElem? (i := 422) (by decide +kernel)⟩
theorem lw_p1 : lw_okq (⟨"ScaleForge", "refuse", "(I)Z"⟩, 19) := ⟨⟨by decide +kernel, by decide +kernel⟩, List.mem_of_getElem? (i := 22) (by decide +kernel), List.mem_of_getElem? (i := 425) (by decide +kernel), List.mem_of_getElem? (i := 426) (by decide +kernel)⟩
theorem lw_p2 : lw_okq (⟨"ScaleForge", "grant", "()Z"⟩, 19) := ⟨⟨by decide +kernel, by decide +kernel⟩, List.mem_of_getElem? (i := 22) (by decide +kernel), List.mem_of_getElem? (i := 433) (by decide +kernel), List.mem_of_getElem? (i := 434) (by decide +kernel)⟩
theorem lw_p3 : lw_okq (⟨"ScaleForge$Tray", "cut", "(J)J"⟩, 3) := ⟨⟨by decide +kernel, by decide +kernel⟩, List.mem_of_getElem? (i := 31) (by decide +kernel), List.mem_of_getElem? (i := 457) (by decide +kernel), List.mem_of_getElem? (i := 458) (by decide +kernel)⟩
theorem lw_p4 : lw_okq (⟨"ScaleForge", "none", "(I)I"⟩, 19) := ⟨⟨by decide +kernel, by decide +kernel⟩, List.mem_of_getElem? (i := 22) (by decide +kernel), List.mem_of_getElem? (i := 465) (by decide +kernel), List.mem_of_getElem? (i := 466) (by decide +kernel)⟩
theorem lw_p5 : lw_okq (⟨"ScaleForge$Reader", "byteAt", "(I)I"⟩, 9) := ⟨⟨by decide +kernel, by decide +kernel⟩, List.mem_of_getElem? (i := 50) (by decide +kernel), List.mem_of_getElem? (i := 508) (by decide +kernel), List.mem_of_getElem? (i := 509) (by decide +kernel)⟩
theorem lw_p6 : lw_okq (⟨"ScaleForge$Reader", "passWord", "()V"⟩, 9) := ⟨⟨by decide +kernel, by decide +kernel⟩, List.mem_of_getElem? (i := 50) (by decide +kernel), List.mem_of_getElem? (i := 518) (by decide +kernel), List.mem_of_getElem? (i := 519) (by decide +kernel)⟩
theorem lw_p7 : lw_okq (⟨"ScaleForge$Reader", "passNumber", "()V"⟩, 9) := ⟨⟨by decide +kernel, by decide +kernel⟩, List.mem_of_getElem? (i := 50) (by decide +kernel), List.mem_of_getElem? (i := 525) (by decide +kernel), List.mem_of_getElem? (i := 526) (by decide +kernel)⟩
theorem lw_p8 : lw_okq (⟨"ScaleForge$ScaleText", "partNow", "()I"⟩, 3) := ⟨⟨by decide +kernel, by decide +kernel⟩, List.mem_of_getElem? (i := 92) (by decide +kernel), List.mem_of_getElem? (i := 537) (by decide +kernel), List.mem_of_getElem? (i := 538) (by decide +kernel)⟩
theorem lw_p9 : lw_okq (⟨"ScaleForge$ScaleText", "takePart", "(I)Z"⟩, 3) := ⟨⟨by decide +kernel, by decide +kernel⟩, List.mem_of_getElem? (i := 92) (by decide +kernel), List.mem_of_getElem? (i := 603) (by decide +kernel), List.mem_of_getElem? (i := 604) (by decide +kernel)⟩
theorem lw_p10 : lw_okq (⟨"ScaleForge$ScaleText", "isTooLate", "(I)Z"⟩, 3) := ⟨⟨by decide +kernel, by decide +kernel⟩, List.mem_of_getElem? (i := 92) (by decide +kernel), List.mem_of_getElem? (i := 608) (by decide +kernel), List.mem_of_getElem? (i := 609) (by decide +kernel)⟩
theorem lw_p11 : lw_okq (⟨"ScaleForge$ScaleText", "takeSounds", "()Z"⟩, 3) := ⟨⟨by decide +kernel, by decide +kernel⟩, List.mem_of_getElem? (i := 92) (by decide +kernel), List.mem_of_getElem? (i := 616) (by decide +kernel), List.mem_of_getElem? (i := 617) (by decide +kernel)⟩
theorem lw_p12 : lw_okq (⟨"ScaleForge", "give", "(I)I"⟩, 19) := ⟨⟨by decide +kernel, by decide +kernel⟩, List.mem_of_getElem? (i := 22) (by decide +kernel), List.mem_of_getElem? (i := 671) (by decide +kernel), List.mem_of_getElem? (i := 672) (by decide +kernel)⟩
theorem lw_p13 : lw_okq (⟨"ScaleForge$StudyText", "takeEnd", "()Z"⟩, 4) := ⟨⟨by decide +kernel, by decide +kernel⟩, List.mem_of_getElem? (i := 171) (by decide +kernel), List.mem_of_getElem? (i := 688) (by decide +kernel), List.mem_of_getElem? (i := 689) (by decide +kernel)⟩
theorem lw_p14 : lw_okq (⟨"ScaleForge$StudyText", "kindNow", "()I"⟩, 4) := ⟨⟨by decide +kernel, by decide +kernel⟩, List.mem_of_getElem? (i := 171) (by decide +kernel), List.mem_of_getElem? (i := 697) (by decide +kernel), List.mem_of_getElem? (i := 698) (by decide +kernel)⟩
theorem lw_p15 : lw_okq (⟨"ScaleForge$StudyText", "takeStep", "(I)Z"⟩, 4) := ⟨⟨by decide +kernel, by decide +kernel⟩, List.mem_of_getElem? (i := 171) (by decide +kernel), List.mem_of_getElem? (i := 710) (by decide +kernel), List.mem_of_getElem? (i := 711) (by decide +kernel)⟩
def lw_privs_1 : List (MethodName × Nat) := [(⟨"ScaleForge", "trayAt", "(I)LScaleForge$Tray;"⟩, 19), (⟨"ScaleForge", "refuse", "(I)Z"⟩, 19), (⟨"ScaleForge", "grant", "()Z"⟩, 19), (⟨"ScaleForge$Tray", "cut", "(J)J"⟩, 3), (⟨"ScaleForge", "none", "(I)I"⟩, 19), (⟨"ScaleForge$Reader", "byteAt", "(I)I"⟩, 9), (⟨"ScaleForge$Reader", "passWord", "()V"⟩, 9), (⟨"ScaleForge$Reader", "passNumber", "()V"⟩, 9), (⟨"ScaleForge$ScaleText", "partNow", "()I"⟩, 3), (⟨"ScaleForge$ScaleText", "takePart", "(I)Z"⟩, 3), (⟨"ScaleForge$ScaleText", "isTooLate", "(I)Z"⟩, 3), (⟨"ScaleForge$ScaleText", "takeSounds", "()Z"⟩, 3), (⟨"ScaleForge", "give", "(I)I"⟩, 19), (⟨"ScaleForge$StudyText", "takeEnd", "()Z"⟩, 4), (⟨"ScaleForge$StudyText", "kindNow", "()I"⟩, 4), (⟨"ScaleForge$StudyText", "takeStep", "(I)Z"⟩, 4)]
theorem lw_r1 : ∀ q ∈ lw_privs_1, lw_okq q := List.forall_mem_cons.mpr ⟨lw_p0, List.forall_mem_cons.mpr ⟨lw_p1, List.forall_mem_cons.mpr ⟨lw_p2, List.forall_mem_cons.mpr ⟨lw_p3, List.forall_mem_cons.mpr ⟨lw_p4, List.forall_mem_cons.mpr ⟨lw_p5, List.forall_mem_cons.mpr ⟨lw_p6, List.forall_mem_cons.mpr ⟨lw_p7, List.forall_mem_cons.mpr ⟨lw_p8, List.forall_mem_cons.mpr ⟨lw_p9, List.forall_mem_cons.mpr ⟨lw_p10, List.forall_mem_cons.mpr ⟨lw_p11, List.forall_mem_cons.mpr ⟨lw_p12, List.forall_mem_cons.mpr ⟨lw_p13, List.forall_mem_cons.mpr ⟨lw_p14, List.forall_mem_cons.mpr ⟨lw_p15, fun _ h => absurd h List.not_mem_nil⟩⟩⟩⟩⟩⟩⟩⟩⟩⟩⟩⟩⟩⟩⟩⟩
theorem lw_p16 : lw_okq (⟨"ScaleForge$StudyText", "takeTest", "(I)Z"⟩, 4) := ⟨⟨by decide +kernel, by decide +kernel⟩, List.mem_of_getElem? (i := 171) (by decide +kernel), List.mem_of_getElem? (i := 714) (by decide +kernel), List.mem_of_getElem? (i := 715) (by decide +kernel)⟩
theorem lw_p17 : lw_okq (⟨"ScaleForge$StudyText", "comparesNow", "()I"⟩, 4) := ⟨⟨by decide +kernel, by decide +kernel⟩, List.mem_of_getElem? (i := 171) (by decide +kernel), List.mem_of_getElem? (i := 719) (by decide +kernel), List.mem_of_getElem? (i := 720) (by decide +kernel)⟩
theorem lw_p18 : lw_okq (⟨"ScaleForge$StudyText", "toneTestNow", "()I"⟩, 4) := ⟨⟨by decide +kernel, by decide +kernel⟩, List.mem_of_getElem? (i := 171) (by decide +kernel), List.mem_of_getElem? (i := 724) (by decide +kernel), List.mem_of_getElem? (i := 725) (by decide +kernel)⟩
theorem lw_p19 : lw_okq (⟨"ScaleForge", "degreesRing", "()LScaleForge$Ring;"⟩, 19) := ⟨⟨by decide +kernel, by decide +kernel⟩, List.mem_of_getElem? (i := 22) (by decide +kernel), List.mem_of_getElem? (i := 751) (by decide +kernel), List.mem_of_getElem? (i := 752) (by decide +kernel)⟩
theorem lw_p20 : lw_okq (⟨"ScaleForge$Ring", "between", "(II)I"⟩, 4) := ⟨⟨by decide +kernel, by decide +kernel⟩, List.mem_of_getElem? (i := 232) (by decide +kernel), List.mem_of_getElem? (i := 769) (by decide +kernel), List.mem_of_getElem? (i := 770) (by decide +kernel)⟩
theorem lw_p21 : lw_okq (⟨"ScaleForge", "isDegree", "(I)Z"⟩, 19) := ⟨⟨by decide +kernel, by decide +kernel⟩, List.mem_of_getElem? (i := 22) (by decide +kernel), List.mem_of_getElem? (i := 794) (by decide +kernel), List.mem_of_getElem? (i := 795) (by decide +kernel)⟩
theorem lw_p22 : lw_okq (⟨"ScaleForge", "degreeOf", "(I)I"⟩, 19) := ⟨⟨by decide +kernel, by decide +kernel⟩, List.mem_of_getElem? (i := 22) (by decide +kernel), List.mem_of_getElem? (i := 809) (by decide +kernel), List.mem_of_getElem? (i := 810) (by decide +kernel)⟩
theorem lw_p23 : lw_okq (⟨"ScaleForge", "giveFound", "(I)I"⟩, 19) := ⟨⟨by decide +kernel, by decide +kernel⟩, List.mem_of_getElem? (i := 22) (by decide +kernel), List.mem_of_getElem? (i := 831) (by decide +kernel), List.mem_of_getElem? (i := 832) (by decide +kernel)⟩
theorem lw_p24 : lw_okq (⟨"ScaleForge", "wellFormed", "()J"⟩, 19) := ⟨⟨by decide +kernel, by decide +kernel⟩, List.mem_of_getElem? (i := 22) (by decide +kernel), List.mem_of_getElem? (i := 925) (by decide +kernel), List.mem_of_getElem? (i := 926) (by decide +kernel)⟩
theorem lw_p25 : lw_okq (⟨"ScaleForge", "darkerThan", "(II)I"⟩, 19) := ⟨⟨by decide +kernel, by decide +kernel⟩, List.mem_of_getElem? (i := 22) (by decide +kernel), List.mem_of_getElem? (i := 959) (by decide +kernel), List.mem_of_getElem? (i := 960) (by decide +kernel)⟩
theorem lw_p26 : lw_okq (⟨"ScaleForge$Guessing", "staying", "(II)I"⟩, 2) := ⟨⟨by decide +kernel, by decide +kernel⟩, List.mem_of_getElem? (i := 252) (by decide +kernel), List.mem_of_getElem? (i := 1060) (by decide +kernel), List.mem_of_getElem? (i := 1061) (by decide +kernel)⟩
theorem lw_p27 : lw_okq (⟨"ScaleForge$Walk", "fewestFrom", "(II)I"⟩, 5) := ⟨⟨by decide +kernel, by decide +kernel⟩, List.mem_of_getElem? (i := 266) (by decide +kernel), List.mem_of_getElem? (i := 1080) (by decide +kernel), List.mem_of_getElem? (i := 1081) (by decide +kernel)⟩
theorem lw_p28 : lw_okq (⟨"ScaleForge$Walk", "farBy", "(III)I"⟩, 5) := ⟨⟨by decide +kernel, by decide +kernel⟩, List.mem_of_getElem? (i := 266) (by decide +kernel), List.mem_of_getElem? (i := 1084) (by decide +kernel), List.mem_of_getElem? (i := 1085) (by decide +kernel)⟩
theorem lw_p29 : lw_okq (⟨"ScaleForge$Walk", "apart", "(II)I"⟩, 5) := ⟨⟨by decide +kernel, by decide +kernel⟩, List.mem_of_getElem? (i := 266) (by decide +kernel), List.mem_of_getElem? (i := 1088) (by decide +kernel), List.mem_of_getElem? (i := 1089) (by decide +kernel)⟩
theorem lw_p30 : lw_okq (⟨"ScaleForge$Walk", "getToGo", "(II)I"⟩, 5) := ⟨⟨by decide +kernel, by decide +kernel⟩, List.mem_of_getElem? (i := 266) (by decide +kernel), List.mem_of_getElem? (i := 1094) (by decide +kernel), List.mem_of_getElem? (i := 1095) (by decide +kernel)⟩
theorem lw_p31 : lw_okq (⟨"ScaleForge$Walk", "setToGo", "(III)V"⟩, 5) := ⟨⟨by decide +kernel, by decide +kernel⟩, List.mem_of_getElem? (i := 266) (by decide +kernel), List.mem_of_getElem? (i := 1098) (by decide +kernel), List.mem_of_getElem? (i := 1099) (by decide +kernel)⟩
def lw_privs_2 : List (MethodName × Nat) := [(⟨"ScaleForge$StudyText", "takeTest", "(I)Z"⟩, 4), (⟨"ScaleForge$StudyText", "comparesNow", "()I"⟩, 4), (⟨"ScaleForge$StudyText", "toneTestNow", "()I"⟩, 4), (⟨"ScaleForge", "degreesRing", "()LScaleForge$Ring;"⟩, 19), (⟨"ScaleForge$Ring", "between", "(II)I"⟩, 4), (⟨"ScaleForge", "isDegree", "(I)Z"⟩, 19), (⟨"ScaleForge", "degreeOf", "(I)I"⟩, 19), (⟨"ScaleForge", "giveFound", "(I)I"⟩, 19), (⟨"ScaleForge", "wellFormed", "()J"⟩, 19), (⟨"ScaleForge", "darkerThan", "(II)I"⟩, 19), (⟨"ScaleForge$Guessing", "staying", "(II)I"⟩, 2), (⟨"ScaleForge$Walk", "fewestFrom", "(II)I"⟩, 5), (⟨"ScaleForge$Walk", "farBy", "(III)I"⟩, 5), (⟨"ScaleForge$Walk", "apart", "(II)I"⟩, 5), (⟨"ScaleForge$Walk", "getToGo", "(II)I"⟩, 5), (⟨"ScaleForge$Walk", "setToGo", "(III)V"⟩, 5)]
theorem lw_r2 : ∀ q ∈ lw_privs_2, lw_okq q := List.forall_mem_cons.mpr ⟨lw_p16, List.forall_mem_cons.mpr ⟨lw_p17, List.forall_mem_cons.mpr ⟨lw_p18, List.forall_mem_cons.mpr ⟨lw_p19, List.forall_mem_cons.mpr ⟨lw_p20, List.forall_mem_cons.mpr ⟨lw_p21, List.forall_mem_cons.mpr ⟨lw_p22, List.forall_mem_cons.mpr ⟨lw_p23, List.forall_mem_cons.mpr ⟨lw_p24, List.forall_mem_cons.mpr ⟨lw_p25, List.forall_mem_cons.mpr ⟨lw_p26, List.forall_mem_cons.mpr ⟨lw_p27, List.forall_mem_cons.mpr ⟨lw_p28, List.forall_mem_cons.mpr ⟨lw_p29, List.forall_mem_cons.mpr ⟨lw_p30, List.forall_mem_cons.mpr ⟨lw_p31, fun _ h => absurd h List.not_mem_nil⟩⟩⟩⟩⟩⟩⟩⟩⟩⟩⟩⟩⟩⟩⟩⟩
theorem lw_p32 : lw_okq (⟨"ScaleForge$Walk", "putInOrder", "()V"⟩, 5) := ⟨⟨by decide +kernel, by decide +kernel⟩, List.mem_of_getElem? (i := 266) (by decide +kernel), List.mem_of_getElem? (i := 1102) (by decide +kernel), List.mem_of_getElem? (i := 1103) (by decide +kernel)⟩
theorem lw_p33 : lw_okq (⟨"ScaleForge", "tripleShapes", "(LScaleForge$Ring;)I"⟩, 19) := ⟨⟨by decide +kernel, by decide +kernel⟩, List.mem_of_getElem? (i := 22) (by decide +kernel), List.mem_of_getElem? (i := 1125) (by decide +kernel), List.mem_of_getElem? (i := 1126) (by decide +kernel)⟩
theorem lw_p34 : lw_okq (⟨"ScaleForge", "tell", "(JJ)Z"⟩, 19) := ⟨⟨by decide +kernel, by decide +kernel⟩, List.mem_of_getElem? (i := 22) (by decide +kernel), List.mem_of_getElem? (i := 1141) (by decide +kernel), List.mem_of_getElem? (i := 1142) (by decide +kernel)⟩
theorem lw_p35 : lw_okq (⟨"ScaleForge", "isStepApart", "(II)Z"⟩, 19) := ⟨⟨by decide +kernel, by decide +kernel⟩, List.mem_of_getElem? (i := 22) (by decide +kernel), List.mem_of_getElem? (i := 1172) (by decide +kernel), List.mem_of_getElem? (i := 1173) (by decide +kernel)⟩
theorem lw_p36 : lw_okq (⟨"ScaleForge$Life", "isAtEnd", "()Z"⟩, 16) := ⟨⟨by decide +kernel, by decide +kernel⟩, List.mem_of_getElem? (i := 288) (by decide +kernel), List.mem_of_getElem? (i := 1184) (by decide +kernel), List.mem_of_getElem? (i := 1185) (by decide +kernel)⟩
theorem lw_p37 : lw_okq (⟨"ScaleForge$Life", "innermost", "()I"⟩, 16) := ⟨⟨by decide +kernel, by decide +kernel⟩, List.mem_of_getElem? (i := 288) (by decide +kernel), List.mem_of_getElem? (i := 1188) (by decide +kernel), List.mem_of_getElem? (i := 1189) (by decide +kernel)⟩
theorem lw_p38 : lw_okq (⟨"ScaleForge$Life", "endInnermost", "()V"⟩, 16) := ⟨⟨by decide +kernel, by decide +kernel⟩, List.mem_of_getElem? (i := 288) (by decide +kernel), List.mem_of_getElem? (i := 1193) (by decide +kernel), List.mem_of_getElem? (i := 1194) (by decide +kernel)⟩
theorem lw_p39 : lw_okq (⟨"ScaleForge$Life", "dropHeld", "(I)V"⟩, 16) := ⟨⟨by decide +kernel, by decide +kernel⟩, List.mem_of_getElem? (i := 288) (by decide +kernel), List.mem_of_getElem? (i := 1197) (by decide +kernel), List.mem_of_getElem? (i := 1198) (by decide +kernel)⟩
theorem lw_p40 : lw_okq (⟨"ScaleForge$Life", "comesToStep", "()Z"⟩, 16) := ⟨⟨by decide +kernel, by decide +kernel⟩, List.mem_of_getElem? (i := 288) (by decide +kernel), List.mem_of_getElem? (i := 1202) (by decide +kernel), List.mem_of_getElem? (i := 1203) (by decide +kernel)⟩
theorem lw_p41 : lw_okq (⟨"ScaleForge$Life", "doStep", "(I)V"⟩, 16) := ⟨⟨by decide +kernel, by decide +kernel⟩, List.mem_of_getElem? (i := 288) (by decide +kernel), List.mem_of_getElem? (i := 1206) (by decide +kernel), List.mem_of_getElem? (i := 1207) (by decide +kernel)⟩
theorem lw_p42 : lw_okq (⟨"ScaleForge$Life", "strikeOrMiss", "(I)Z"⟩, 16) := ⟨⟨by decide +kernel, by decide +kernel⟩, List.mem_of_getElem? (i := 288) (by decide +kernel), List.mem_of_getElem? (i := 1210) (by decide +kernel), List.mem_of_getElem? (i := 1211) (by decide +kernel)⟩
theorem lw_p43 : lw_okq (⟨"ScaleForge$Life", "releaseOrMiss", "(I)V"⟩, 16) := ⟨⟨by decide +kernel, by decide +kernel⟩, List.mem_of_getElem? (i := 288) (by decide +kernel), List.mem_of_getElem? (i := 1215) (by decide +kernel), List.mem_of_getElem? (i := 1216) (by decide +kernel)⟩
theorem lw_p44 : lw_okq (⟨"ScaleForge$Life", "doAny", "()V"⟩, 16) := ⟨⟨by decide +kernel, by decide +kernel⟩, List.mem_of_getElem? (i := 288) (by decide +kernel), List.mem_of_getElem? (i := 1223) (by decide +kernel), List.mem_of_getElem? (i := 1224) (by decide +kernel)⟩
theorem lw_p45 : lw_okq (⟨"ScaleForge$Life", "draw", "(I)I"⟩, 16) := ⟨⟨by decide +kernel, by decide +kernel⟩, List.mem_of_getElem? (i := 288) (by decide +kernel), List.mem_of_getElem? (i := 1228) (by decide +kernel), List.mem_of_getElem? (i := 1229) (by decide +kernel)⟩
theorem lw_p46 : lw_okq (⟨"ScaleForge$Life", "enterIf", "(ZII)V"⟩, 16) := ⟨⟨by decide +kernel, by decide +kernel⟩, List.mem_of_getElem? (i := 288) (by decide +kernel), List.mem_of_getElem? (i := 1234) (by decide +kernel), List.mem_of_getElem? (i := 1235) (by decide +kernel)⟩
theorem lw_p47 : lw_okq (⟨"ScaleForge$Life", "isSo", "(II)Z"⟩, 16) := ⟨⟨by decide +kernel, by decide +kernel⟩, List.mem_of_getElem? (i := 288) (by decide +kernel), List.mem_of_getElem? (i := 1238) (by decide +kernel), List.mem_of_getElem? (i := 1239) (by decide +kernel)⟩
def lw_privs_3 : List (MethodName × Nat) := [(⟨"ScaleForge$Walk", "putInOrder", "()V"⟩, 5), (⟨"ScaleForge", "tripleShapes", "(LScaleForge$Ring;)I"⟩, 19), (⟨"ScaleForge", "tell", "(JJ)Z"⟩, 19), (⟨"ScaleForge", "isStepApart", "(II)Z"⟩, 19), (⟨"ScaleForge$Life", "isAtEnd", "()Z"⟩, 16), (⟨"ScaleForge$Life", "innermost", "()I"⟩, 16), (⟨"ScaleForge$Life", "endInnermost", "()V"⟩, 16), (⟨"ScaleForge$Life", "dropHeld", "(I)V"⟩, 16), (⟨"ScaleForge$Life", "comesToStep", "()Z"⟩, 16), (⟨"ScaleForge$Life", "doStep", "(I)V"⟩, 16), (⟨"ScaleForge$Life", "strikeOrMiss", "(I)Z"⟩, 16), (⟨"ScaleForge$Life", "releaseOrMiss", "(I)V"⟩, 16), (⟨"ScaleForge$Life", "doAny", "()V"⟩, 16), (⟨"ScaleForge$Life", "draw", "(I)I"⟩, 16), (⟨"ScaleForge$Life", "enterIf", "(ZII)V"⟩, 16), (⟨"ScaleForge$Life", "isSo", "(II)Z"⟩, 16)]
theorem lw_r3 : ∀ q ∈ lw_privs_3, lw_okq q := List.forall_mem_cons.mpr ⟨lw_p32, List.forall_mem_cons.mpr ⟨lw_p33, List.forall_mem_cons.mpr ⟨lw_p34, List.forall_mem_cons.mpr ⟨lw_p35, List.forall_mem_cons.mpr ⟨lw_p36, List.forall_mem_cons.mpr ⟨lw_p37, List.forall_mem_cons.mpr ⟨lw_p38, List.forall_mem_cons.mpr ⟨lw_p39, List.forall_mem_cons.mpr ⟨lw_p40, List.forall_mem_cons.mpr ⟨lw_p41, List.forall_mem_cons.mpr ⟨lw_p42, List.forall_mem_cons.mpr ⟨lw_p43, List.forall_mem_cons.mpr ⟨lw_p44, List.forall_mem_cons.mpr ⟨lw_p45, List.forall_mem_cons.mpr ⟨lw_p46, List.forall_mem_cons.mpr ⟨lw_p47, fun _ h => absurd h List.not_mem_nil⟩⟩⟩⟩⟩⟩⟩⟩⟩⟩⟩⟩⟩⟩⟩⟩
theorem lw_p48 : lw_okq (⟨"ScaleForge$Life", "leaveHold", "()V"⟩, 16) := ⟨⟨by decide +kernel, by decide +kernel⟩, List.mem_of_getElem? (i := 288) (by decide +kernel), List.mem_of_getElem? (i := 1245) (by decide +kernel), List.mem_of_getElem? (i := 1246) (by decide +kernel)⟩
theorem lw_p49 : lw_okq (⟨"ScaleForge$Life", "letAllGo", "()V"⟩, 16) := ⟨⟨by decide +kernel, by decide +kernel⟩, List.mem_of_getElem? (i := 288) (by decide +kernel), List.mem_of_getElem? (i := 1249) (by decide +kernel), List.mem_of_getElem? (i := 1250) (by decide +kernel)⟩
theorem lw_p50 : lw_okq (⟨"ScaleForgeModel", "plain", "(I)V"⟩, 56) := ⟨⟨by decide +kernel, by decide +kernel⟩, List.mem_of_getElem? (i := 1281) (by decide +kernel), List.mem_of_getElem? (i := 1287) (by decide +kernel), List.mem_of_getElem? (i := 1288) (by decide +kernel)⟩
theorem lw_p51 : lw_okq (⟨"ScaleForgeModel", "is", "(I)Z"⟩, 56) := ⟨⟨by decide +kernel, by decide +kernel⟩, List.mem_of_getElem? (i := 1281) (by decide +kernel), List.mem_of_getElem? (i := 1480) (by decide +kernel), List.mem_of_getElem? (i := 1481) (by decide +kernel)⟩
theorem lw_p52 : lw_okq (⟨"ScaleForgeModel", "wrongPlace", "(II)I"⟩, 56) := ⟨⟨by decide +kernel, by decide +kernel⟩, List.mem_of_getElem? (i := 1281) (by decide +kernel), List.mem_of_getElem? (i := 1488) (by decide +kernel), List.mem_of_getElem? (i := 1489) (by decide +kernel)⟩
theorem lw_p53 : lw_okq (⟨"ScaleForgeModel", "four", "(I)V"⟩, 56) := ⟨⟨by decide +kernel, by decide +kernel⟩, List.mem_of_getElem? (i := 1281) (by decide +kernel), List.mem_of_getElem? (i := 1508) (by decide +kernel), List.mem_of_getElem? (i := 1509) (by decide +kernel)⟩
theorem lw_p54 : lw_okq (⟨"ScaleForgeModel", "begins", "(II)Z"⟩, 56) := ⟨⟨by decide +kernel, by decide +kernel⟩, List.mem_of_getElem? (i := 1281) (by decide +kernel), List.mem_of_getElem? (i := 1520) (by decide +kernel), List.mem_of_getElem? (i := 1521) (by decide +kernel)⟩
theorem lw_p55 : lw_okq (⟨"ScaleForgeModel", "ahead", "()V"⟩, 56) := ⟨⟨by decide +kernel, by decide +kernel⟩, List.mem_of_getElem? (i := 1281) (by decide +kernel), List.mem_of_getElem? (i := 1524) (by decide +kernel), List.mem_of_getElem? (i := 1525) (by decide +kernel)⟩
theorem lw_p56 : lw_okq (⟨"ScaleForgeModel", "byteAt", "(I)I"⟩, 56) := ⟨⟨by decide +kernel, by decide +kernel⟩, List.mem_of_getElem? (i := 1281) (by decide +kernel), List.mem_of_getElem? (i := 1528) (by decide +kernel), List.mem_of_getElem? (i := 1529) (by decide +kernel)⟩
theorem lw_p57 : lw_okq (⟨"ScaleForgeModel", "refuse", "(I)I"⟩, 56) := ⟨⟨by decide +kernel, by decide +kernel⟩, List.mem_of_getElem? (i := 1281) (by decide +kernel), List.mem_of_getElem? (i := 1540) (by decide +kernel), List.mem_of_getElem? (i := 1541) (by decide +kernel)⟩
theorem lw_p58 : lw_okq (⟨"ScaleForgeModel", "scalePart", "()Z"⟩, 56) := ⟨⟨by decide +kernel, by decide +kernel⟩, List.mem_of_getElem? (i := 1281) (by decide +kernel), List.mem_of_getElem? (i := 1544) (by decide +kernel), List.mem_of_getElem? (i := 1545) (by decide +kernel)⟩
theorem lw_p59 : lw_okq (⟨"ScaleForgeModel", "inWords", "(Ljava/lang/String;)I"⟩, 56) := ⟨⟨by decide +kernel, by decide +kernel⟩, List.mem_of_getElem? (i := 1281) (by decide +kernel), List.mem_of_getElem? (i := 1549) (by decide +kernel), List.mem_of_getElem? (i := 1550) (by decide +kernel)⟩
theorem lw_p60 : lw_okq (⟨"ScaleForgeModel", "fails", "(I)Z"⟩, 56) := ⟨⟨by decide +kernel, by decide +kernel⟩, List.mem_of_getElem? (i := 1281) (by decide +kernel), List.mem_of_getElem? (i := 1555) (by decide +kernel), List.mem_of_getElem? (i := 1556) (by decide +kernel)⟩
theorem lw_p61 : lw_okq (⟨"ScaleForgeModel", "isIn", "(II)Z"⟩, 56) := ⟨⟨by decide +kernel, by decide +kernel⟩, List.mem_of_getElem? (i := 1281) (by decide +kernel), List.mem_of_getElem? (i := 1559) (by decide +kernel), List.mem_of_getElem? (i := 1560) (by decide +kernel)⟩
theorem lw_p62 : lw_okq (⟨"ScaleForgeModel", "sounding", "()Z"⟩, 56) := ⟨⟨by decide +kernel, by decide +kernel⟩, List.mem_of_getElem? (i := 1281) (by decide +kernel), List.mem_of_getElem? (i := 1563) (by decide +kernel), List.mem_of_getElem? (i := 1564) (by decide +kernel)⟩
theorem lw_p63 : lw_okq (⟨"ScaleForgeModel", "number", "(III)Z"⟩, 56) := ⟨⟨by decide +kernel, by decide +kernel⟩, List.mem_of_getElem? (i := 1281) (by decide +kernel), List.mem_of_getElem? (i := 1567) (by decide +kernel), List.mem_of_getElem? (i := 1568) (by decide +kernel)⟩
def lw_privs_4 : List (MethodName × Nat) := [(⟨"ScaleForge$Life", "leaveHold", "()V"⟩, 16), (⟨"ScaleForge$Life", "letAllGo", "()V"⟩, 16), (⟨"ScaleForgeModel", "plain", "(I)V"⟩, 56), (⟨"ScaleForgeModel", "is", "(I)Z"⟩, 56), (⟨"ScaleForgeModel", "wrongPlace", "(II)I"⟩, 56), (⟨"ScaleForgeModel", "four", "(I)V"⟩, 56), (⟨"ScaleForgeModel", "begins", "(II)Z"⟩, 56), (⟨"ScaleForgeModel", "ahead", "()V"⟩, 56), (⟨"ScaleForgeModel", "byteAt", "(I)I"⟩, 56), (⟨"ScaleForgeModel", "refuse", "(I)I"⟩, 56), (⟨"ScaleForgeModel", "scalePart", "()Z"⟩, 56), (⟨"ScaleForgeModel", "inWords", "(Ljava/lang/String;)I"⟩, 56), (⟨"ScaleForgeModel", "fails", "(I)Z"⟩, 56), (⟨"ScaleForgeModel", "isIn", "(II)Z"⟩, 56), (⟨"ScaleForgeModel", "sounding", "()Z"⟩, 56), (⟨"ScaleForgeModel", "number", "(III)Z"⟩, 56)]
theorem lw_r4 : ∀ q ∈ lw_privs_4, lw_okq q := List.forall_mem_cons.mpr ⟨lw_p48, List.forall_mem_cons.mpr ⟨lw_p49, List.forall_mem_cons.mpr ⟨lw_p50, List.forall_mem_cons.mpr ⟨lw_p51, List.forall_mem_cons.mpr ⟨lw_p52, List.forall_mem_cons.mpr ⟨lw_p53, List.forall_mem_cons.mpr ⟨lw_p54, List.forall_mem_cons.mpr ⟨lw_p55, List.forall_mem_cons.mpr ⟨lw_p56, List.forall_mem_cons.mpr ⟨lw_p57, List.forall_mem_cons.mpr ⟨lw_p58, List.forall_mem_cons.mpr ⟨lw_p59, List.forall_mem_cons.mpr ⟨lw_p60, List.forall_mem_cons.mpr ⟨lw_p61, List.forall_mem_cons.mpr ⟨lw_p62, List.forall_mem_cons.mpr ⟨lw_p63, fun _ h => absurd h List.not_mem_nil⟩⟩⟩⟩⟩⟩⟩⟩⟩⟩⟩⟩⟩⟩⟩⟩
theorem lw_p64 : lw_okq (⟨"ScaleForgeModel", "wantSign", "(I)Z"⟩, 56) := ⟨⟨by decide +kernel, by decide +kernel⟩, List.mem_of_getElem? (i := 1281) (by decide +kernel), List.mem_of_getElem? (i := 1571) (by decide +kernel), List.mem_of_getElem? (i := 1572) (by decide +kernel)⟩
theorem lw_p65 : lw_okq (⟨"ScaleForgeModel", "isSign", "(I)Z"⟩, 56) := ⟨⟨by decide +kernel, by decide +kernel⟩, List.mem_of_getElem? (i := 1281) (by decide +kernel), List.mem_of_getElem? (i := 1575) (by decide +kernel), List.mem_of_getElem? (i := 1576) (by decide +kernel)⟩
theorem lw_p66 : lw_okq (⟨"ScaleForgeModel", "folds", "(I)V"⟩, 56) := ⟨⟨by decide +kernel, by decide +kernel⟩, List.mem_of_getElem? (i := 1281) (by decide +kernel), List.mem_of_getElem? (i := 1585) (by decide +kernel), List.mem_of_getElem? (i := 1586) (by decide +kernel)⟩
theorem lw_p67 : lw_okq (⟨"ScaleForgeModel", "laysScale", "()V"⟩, 56) := ⟨⟨by decide +kernel, by decide +kernel⟩, List.mem_of_getElem? (i := 1281) (by decide +kernel), List.mem_of_getElem? (i := 1592) (by decide +kernel), List.mem_of_getElem? (i := 1593) (by decide +kernel)⟩
theorem lw_p68 : lw_okq (⟨"ScaleForgeModel", "lays", "(II)V"⟩, 56) := ⟨⟨by decide +kernel, by decide +kernel⟩, List.mem_of_getElem? (i := 1281) (by decide +kernel), List.mem_of_getElem? (i := 1596) (by decide +kernel), List.mem_of_getElem? (i := 1597) (by decide +kernel)⟩
theorem lw_p69 : lw_okq (⟨"ScaleForgeModel", "chainBy", "(II)I"⟩, 56) := ⟨⟨by decide +kernel, by decide +kernel⟩, List.mem_of_getElem? (i := 1281) (by decide +kernel), List.mem_of_getElem? (i := 1600) (by decide +kernel), List.mem_of_getElem? (i := 1601) (by decide +kernel)⟩
theorem lw_p70 : lw_okq (⟨"ScaleForgeModel", "taken", "(I)I"⟩, 56) := ⟨⟨by decide +kernel, by decide +kernel⟩, List.mem_of_getElem? (i := 1281) (by decide +kernel), List.mem_of_getElem? (i := 1607) (by decide +kernel), List.mem_of_getElem? (i := 1608) (by decide +kernel)⟩
theorem lw_p71 : lw_okq (⟨"ScaleForgeModel", "gives", "(I)I"⟩, 56) := ⟨⟨by decide +kernel, by decide +kernel⟩, List.mem_of_getElem? (i := 1281) (by decide +kernel), List.mem_of_getElem? (i := 1611) (by decide +kernel), List.mem_of_getElem? (i := 1612) (by decide +kernel)⟩
theorem lw_p72 : lw_okq (⟨"ScaleForgeModel", "studyStep", "()Z"⟩, 56) := ⟨⟨by decide +kernel, by decide +kernel⟩, List.mem_of_getElem? (i := 1281) (by decide +kernel), List.mem_of_getElem? (i := 1619) (by decide +kernel), List.mem_of_getElem? (i := 1620) (by decide +kernel)⟩
theorem lw_p73 : lw_okq (⟨"ScaleForgeModel", "studyOrder", "(II)Z"⟩, 56) := ⟨⟨by decide +kernel, by decide +kernel⟩, List.mem_of_getElem? (i := 1281) (by decide +kernel), List.mem_of_getElem? (i := 1623) (by decide +kernel), List.mem_of_getElem? (i := 1624) (by decide +kernel)⟩
theorem lw_p74 : lw_okq (⟨"ScaleForgeModel", "test", "(I)Z"⟩, 56) := ⟨⟨by decide +kernel, by decide +kernel⟩, List.mem_of_getElem? (i := 1281) (by decide +kernel), List.mem_of_getElem? (i := 1627) (by decide +kernel), List.mem_of_getElem? (i := 1628) (by decide +kernel)⟩
theorem lw_p75 : lw_okq (⟨"ScaleForgeModel", "soundMany", "()I"⟩, 56) := ⟨⟨by decide +kernel, by decide +kernel⟩, List.mem_of_getElem? (i := 1281) (by decide +kernel), List.mem_of_getElem? (i := 1635) (by decide +kernel), List.mem_of_getElem? (i := 1636) (by decide +kernel)⟩
theorem lw_p76 : lw_okq (⟨"ScaleForgeModel", "sounds", "(I)I"⟩, 56) := ⟨⟨by decide +kernel, by decide +kernel⟩, List.mem_of_getElem? (i := 1281) (by decide +kernel), List.mem_of_getElem? (i := 1639) (by decide +kernel), List.mem_of_getElem? (i := 1640) (by decide +kernel)⟩
theorem lw_p77 : lw_okq (⟨"ScaleForgeModel", "isDegree", "(I)Z"⟩, 56) := ⟨⟨by decide +kernel, by decide +kernel⟩, List.mem_of_getElem? (i := 1281) (by decide +kernel), List.mem_of_getElem? (i := 1656) (by decide +kernel), List.mem_of_getElem? (i := 1657) (by decide +kernel)⟩
theorem lw_p78 : lw_okq (⟨"ScaleForgeModel", "isTone", "(I)Z"⟩, 56) := ⟨⟨by decide +kernel, by decide +kernel⟩, List.mem_of_getElem? (i := 1281) (by decide +kernel), List.mem_of_getElem? (i := 1664) (by decide +kernel), List.mem_of_getElem? (i := 1665) (by decide +kernel)⟩
theorem lw_p79 : lw_okq (⟨"ScaleForgeModel", "orNone", "(I)I"⟩, 56) := ⟨⟨by decide +kernel, by decide +kernel⟩, List.mem_of_getElem? (i := 1281) (by decide +kernel), List.mem_of_getElem? (i := 1668) (by decide +kernel), List.mem_of_getElem? (i := 1669) (by decide +kernel)⟩
def lw_privs_5 : List (MethodName × Nat) := [(⟨"ScaleForgeModel", "wantSign", "(I)Z"⟩, 56), (⟨"ScaleForgeModel", "isSign", "(I)Z"⟩, 56), (⟨"ScaleForgeModel", "folds", "(I)V"⟩, 56), (⟨"ScaleForgeModel", "laysScale", "()V"⟩, 56), (⟨"ScaleForgeModel", "lays", "(II)V"⟩, 56), (⟨"ScaleForgeModel", "chainBy", "(II)I"⟩, 56), (⟨"ScaleForgeModel", "taken", "(I)I"⟩, 56), (⟨"ScaleForgeModel", "gives", "(I)I"⟩, 56), (⟨"ScaleForgeModel", "studyStep", "()Z"⟩, 56), (⟨"ScaleForgeModel", "studyOrder", "(II)Z"⟩, 56), (⟨"ScaleForgeModel", "test", "(I)Z"⟩, 56), (⟨"ScaleForgeModel", "soundMany", "()I"⟩, 56), (⟨"ScaleForgeModel", "sounds", "(I)I"⟩, 56), (⟨"ScaleForgeModel", "isDegree", "(I)Z"⟩, 56), (⟨"ScaleForgeModel", "isTone", "(I)Z"⟩, 56), (⟨"ScaleForgeModel", "orNone", "(I)I"⟩, 56)]
theorem lw_r5 : ∀ q ∈ lw_privs_5, lw_okq q := List.forall_mem_cons.mpr ⟨lw_p64, List.forall_mem_cons.mpr ⟨lw_p65, List.forall_mem_cons.mpr ⟨lw_p66, List.forall_mem_cons.mpr ⟨lw_p67, List.forall_mem_cons.mpr ⟨lw_p68, List.forall_mem_cons.mpr ⟨lw_p69, List.forall_mem_cons.mpr ⟨lw_p70, List.forall_mem_cons.mpr ⟨lw_p71, List.forall_mem_cons.mpr ⟨lw_p72, List.forall_mem_cons.mpr ⟨lw_p73, List.forall_mem_cons.mpr ⟨lw_p74, List.forall_mem_cons.mpr ⟨lw_p75, List.forall_mem_cons.mpr ⟨lw_p76, List.forall_mem_cons.mpr ⟨lw_p77, List.forall_mem_cons.mpr ⟨lw_p78, List.forall_mem_cons.mpr ⟨lw_p79, fun _ h => absurd h List.not_mem_nil⟩⟩⟩⟩⟩⟩⟩⟩⟩⟩⟩⟩⟩⟩⟩⟩
theorem lw_p80 : lw_okq (⟨"ScaleForgeModel", "spanOf", "(II)I"⟩, 56) := ⟨⟨by decide +kernel, by decide +kernel⟩, List.mem_of_getElem? (i := 1281) (by decide +kernel), List.mem_of_getElem? (i := 1681) (by decide +kernel), List.mem_of_getElem? (i := 1682) (by decide +kernel)⟩
theorem lw_p81 : lw_okq (⟨"ScaleForgeModel", "isSize", "(I)Z"⟩, 56) := ⟨⟨by decide +kernel, by decide +kernel⟩, List.mem_of_getElem? (i := 1281) (by decide +kernel), List.mem_of_getElem? (i := 1689) (by decide +kernel), List.mem_of_getElem? (i := 1690) (by decide +kernel)⟩
theorem lw_p82 : lw_okq (⟨"ScaleForgeModel", "sizeCount", "(I)I"⟩, 56) := ⟨⟨by decide +kernel, by decide +kernel⟩, List.mem_of_getElem? (i := 1281) (by decide +kernel), List.mem_of_getElem? (i := 1697) (by decide +kernel), List.mem_of_getElem? (i := 1698) (by decide +kernel)⟩
theorem lw_p83 : lw_okq (⟨"ScaleForgeModel", "presses", "(I)Z"⟩, 56) := ⟨⟨by decide +kernel, by decide +kernel⟩, List.mem_of_getElem? (i := 1281) (by decide +kernel), List.mem_of_getElem? (i := 1709) (by decide +kernel), List.mem_of_getElem? (i := 1710) (by decide +kernel)⟩
theorem lw_p84 : lw_okq (⟨"ScaleForgeModel", "lifts", "(I)Z"⟩, 56) := ⟨⟨by decide +kernel, by decide +kernel⟩, List.mem_of_getElem? (i := 1281) (by decide +kernel), List.mem_of_getElem? (i := 1717) (by decide +kernel), List.mem_of_getElem? (i := 1718) (by decide +kernel)⟩
theorem lw_p85 : lw_okq (⟨"ScaleForgeModel", "keeps", "(I)V"⟩, 56) := ⟨⟨by decide +kernel, by decide +kernel⟩, List.mem_of_getElem? (i := 1281) (by decide +kernel), List.mem_of_getElem? (i := 1738) (by decide +kernel), List.mem_of_getElem? (i := 1739) (by decide +kernel)⟩
theorem lw_p86 : lw_okq (⟨"ScaleForgeModel", "fitNow", "()I"⟩, 56) := ⟨⟨by decide +kernel, by decide +kernel⟩, List.mem_of_getElem? (i := 1281) (by decide +kernel), List.mem_of_getElem? (i := 1742) (by decide +kernel), List.mem_of_getElem? (i := 1743) (by decide +kernel)⟩
theorem lw_p87 : lw_okq (⟨"ScaleForgeModel", "laysChain", "(II)V"⟩, 56) := ⟨⟨by decide +kernel, by decide +kernel⟩, List.mem_of_getElem? (i := 1281) (by decide +kernel), List.mem_of_getElem? (i := 1746) (by decide +kernel), List.mem_of_getElem? (i := 1747) (by decide +kernel)⟩
theorem lw_p88 : lw_okq (⟨"ScaleForgeModel", "fitBy", "()I"⟩, 56) := ⟨⟨by decide +kernel, by decide +kernel⟩, List.mem_of_getElem? (i := 1281) (by decide +kernel), List.mem_of_getElem? (i := 1750) (by decide +kernel), List.mem_of_getElem? (i := 1751) (by decide +kernel)⟩
theorem lw_p89 : lw_okq (⟨"ScaleForgeModel", "varietyOf", "(I)I"⟩, 56) := ⟨⟨by decide +kernel, by decide +kernel⟩, List.mem_of_getElem? (i := 1281) (by decide +kernel), List.mem_of_getElem? (i := 1762) (by decide +kernel), List.mem_of_getElem? (i := 1763) (by decide +kernel)⟩
theorem lw_p90 : lw_okq (⟨"ScaleForgeModel", "wellFormed", "(I)I"⟩, 56) := ⟨⟨by decide +kernel, by decide +kernel⟩, List.mem_of_getElem? (i := 1281) (by decide +kernel), List.mem_of_getElem? (i := 1774) (by decide +kernel), List.mem_of_getElem? (i := 1775) (by decide +kernel)⟩
theorem lw_p91 : lw_okq (⟨"ScaleForgeModel", "areAlike", "(II)Z"⟩, 56) := ⟨⟨by decide +kernel, by decide +kernel⟩, List.mem_of_getElem? (i := 1281) (by decide +kernel), List.mem_of_getElem? (i := 1786) (by decide +kernel), List.mem_of_getElem? (i := 1787) (by decide +kernel)⟩
theorem lw_p92 : lw_okq (⟨"ScaleForgeModel", "brightnessOf", "(I)I"⟩, 56) := ⟨⟨by decide +kernel, by decide +kernel⟩, List.mem_of_getElem? (i := 1281) (by decide +kernel), List.mem_of_getElem? (i := 1798) (by decide +kernel), List.mem_of_getElem? (i := 1799) (by decide +kernel)⟩
theorem lw_p93 : lw_okq (⟨"ScaleForgeModel", "nominalOf", "(I)I"⟩, 56) := ⟨⟨by decide +kernel, by decide +kernel⟩, List.mem_of_getElem? (i := 1281) (by decide +kernel), List.mem_of_getElem? (i := 1810) (by decide +kernel), List.mem_of_getElem? (i := 1811) (by decide +kernel)⟩
theorem lw_p94 : lw_okq (⟨"ScaleForgeModel", "sharpsOf", "(I)I"⟩, 56) := ⟨⟨by decide +kernel, by decide +kernel⟩, List.mem_of_getElem? (i := 1281) (by decide +kernel), List.mem_of_getElem? (i := 1818) (by decide +kernel), List.mem_of_getElem? (i := 1819) (by decide +kernel)⟩
theorem lw_p95 : lw_okq (⟨"ScaleForgeModel", "laysNames", "(I)V"⟩, 56) := ⟨⟨by decide +kernel, by decide +kernel⟩, List.mem_of_getElem? (i := 1281) (by decide +kernel), List.mem_of_getElem? (i := 1832) (by decide +kernel), List.mem_of_getElem? (i := 1833) (by decide +kernel)⟩
def lw_privs_6 : List (MethodName × Nat) := [(⟨"ScaleForgeModel", "spanOf", "(II)I"⟩, 56), (⟨"ScaleForgeModel", "isSize", "(I)Z"⟩, 56), (⟨"ScaleForgeModel", "sizeCount", "(I)I"⟩, 56), (⟨"ScaleForgeModel", "presses", "(I)Z"⟩, 56), (⟨"ScaleForgeModel", "lifts", "(I)Z"⟩, 56), (⟨"ScaleForgeModel", "keeps", "(I)V"⟩, 56), (⟨"ScaleForgeModel", "fitNow", "()I"⟩, 56), (⟨"ScaleForgeModel", "laysChain", "(II)V"⟩, 56), (⟨"ScaleForgeModel", "fitBy", "()I"⟩, 56), (⟨"ScaleForgeModel", "varietyOf", "(I)I"⟩, 56), (⟨"ScaleForgeModel", "wellFormed", "(I)I"⟩, 56), (⟨"ScaleForgeModel", "areAlike", "(II)Z"⟩, 56), (⟨"ScaleForgeModel", "brightnessOf", "(I)I"⟩, 56), (⟨"ScaleForgeModel", "nominalOf", "(I)I"⟩, 56), (⟨"ScaleForgeModel", "sharpsOf", "(I)I"⟩, 56), (⟨"ScaleForgeModel", "laysNames", "(I)V"⟩, 56)]
theorem lw_r6 : ∀ q ∈ lw_privs_6, lw_okq q := List.forall_mem_cons.mpr ⟨lw_p80, List.forall_mem_cons.mpr ⟨lw_p81, List.forall_mem_cons.mpr ⟨lw_p82, List.forall_mem_cons.mpr ⟨lw_p83, List.forall_mem_cons.mpr ⟨lw_p84, List.forall_mem_cons.mpr ⟨lw_p85, List.forall_mem_cons.mpr ⟨lw_p86, List.forall_mem_cons.mpr ⟨lw_p87, List.forall_mem_cons.mpr ⟨lw_p88, List.forall_mem_cons.mpr ⟨lw_p89, List.forall_mem_cons.mpr ⟨lw_p90, List.forall_mem_cons.mpr ⟨lw_p91, List.forall_mem_cons.mpr ⟨lw_p92, List.forall_mem_cons.mpr ⟨lw_p93, List.forall_mem_cons.mpr ⟨lw_p94, List.forall_mem_cons.mpr ⟨lw_p95, fun _ h => absurd h List.not_mem_nil⟩⟩⟩⟩⟩⟩⟩⟩⟩⟩⟩⟩⟩⟩⟩⟩
theorem lw_p96 : lw_okq (⟨"ScaleForgeModel", "toneOfKey", "(I)I"⟩, 56) := ⟨⟨by decide +kernel, by decide +kernel⟩, List.mem_of_getElem? (i := 1281) (by decide +kernel), List.mem_of_getElem? (i := 1847) (by decide +kernel), List.mem_of_getElem? (i := 1848) (by decide +kernel)⟩
theorem lw_p97 : lw_okq (⟨"ScaleForgeModel", "bestKey", "(I)I"⟩, 56) := ⟨⟨by decide +kernel, by decide +kernel⟩, List.mem_of_getElem? (i := 1281) (by decide +kernel), List.mem_of_getElem? (i := 1859) (by decide +kernel), List.mem_of_getElem? (i := 1860) (by decide +kernel)⟩
theorem lw_p98 : lw_okq (⟨"ScaleForgeModel", "laysWay", "()Z"⟩, 56) := ⟨⟨by decide +kernel, by decide +kernel⟩, List.mem_of_getElem? (i := 1281) (by decide +kernel), List.mem_of_getElem? (i := 1887) (by decide +kernel), List.mem_of_getElem? (i := 1888) (by decide +kernel)⟩
theorem lw_p99 : lw_okq (⟨"ScaleForgeModel", "arrives", "()V"⟩, 56) := ⟨⟨by decide +kernel, by decide +kernel⟩, List.mem_of_getElem? (i := 1281) (by decide +kernel), List.mem_of_getElem? (i := 1891) (by decide +kernel), List.mem_of_getElem? (i := 1892) (by decide +kernel)⟩
theorem lw_p100 : lw_okq (⟨"ScaleForgeModel", "apart", "(II)I"⟩, 56) := ⟨⟨by decide +kernel, by decide +kernel⟩, List.mem_of_getElem? (i := 1281) (by decide +kernel), List.mem_of_getElem? (i := 1895) (by decide +kernel), List.mem_of_getElem? (i := 1896) (by decide +kernel)⟩
theorem lw_p101 : lw_okq (⟨"ScaleForgeModel", "laysGuesses", "()I"⟩, 56) := ⟨⟨by decide +kernel, by decide +kernel⟩, List.mem_of_getElem? (i := 1281) (by decide +kernel), List.mem_of_getElem? (i := 1912) (by decide +kernel), List.mem_of_getElem? (i := 1913) (by decide +kernel)⟩
theorem lw_p102 : lw_okq (⟨"ScaleForgeModel", "laysConvergents", "()I"⟩, 56) := ⟨⟨by decide +kernel, by decide +kernel⟩, List.mem_of_getElem? (i := 1281) (by decide +kernel), List.mem_of_getElem? (i := 1929) (by decide +kernel), List.mem_of_getElem? (i := 1930) (by decide +kernel)⟩
theorem lw_p103 : lw_okq (⟨"ScaleForgeModel", "tellsBy", "(JJ)Z"⟩, 56) := ⟨⟨by decide +kernel, by decide +kernel⟩, List.mem_of_getElem? (i := 1281) (by decide +kernel), List.mem_of_getElem? (i := 1937) (by decide +kernel), List.mem_of_getElem? (i := 1938) (by decide +kernel)⟩
theorem lw_p104 : lw_okq (⟨"ScaleForgeModel", "areBeside", "(II)Z"⟩, 56) := ⟨⟨by decide +kernel, by decide +kernel⟩, List.mem_of_getElem? (i := 1281) (by decide +kernel), List.mem_of_getElem? (i := 1963) (by decide +kernel), List.mem_of_getElem? (i := 1964) (by decide +kernel)⟩
theorem lw_p105 : lw_okq (⟨"ScaleForgeModel", "lives", "(I)V"⟩, 56) := ⟨⟨by decide +kernel, by decide +kernel⟩, List.mem_of_getElem? (i := 1281) (by decide +kernel), List.mem_of_getElem? (i := 1972) (by decide +kernel), List.mem_of_getElem? (i := 1973) (by decide +kernel)⟩
theorem lw_p106 : lw_okq (⟨"ScaleForgeModel", "does", "(I)Z"⟩, 56) := ⟨⟨by decide +kernel, by decide +kernel⟩, List.mem_of_getElem? (i := 1281) (by decide +kernel), List.mem_of_getElem? (i := 1976) (by decide +kernel), List.mem_of_getElem? (i := 1977) (by decide +kernel)⟩
theorem lw_p107 : lw_okq (⟨"ScaleForgeModel", "ranIf", "(IZ)Z"⟩, 56) := ⟨⟨by decide +kernel, by decide +kernel⟩, List.mem_of_getElem? (i := 1281) (by decide +kernel), List.mem_of_getElem? (i := 1980) (by decide +kernel), List.mem_of_getElem? (i := 1981) (by decide +kernel)⟩
theorem lw_p108 : lw_okq (⟨"ScaleForgeModel", "roots", "(I)Z"⟩, 56) := ⟨⟨by decide +kernel, by decide +kernel⟩, List.mem_of_getElem? (i := 1281) (by decide +kernel), List.mem_of_getElem? (i := 1984) (by decide +kernel), List.mem_of_getElem? (i := 1985) (by decide +kernel)⟩
theorem lw_p109 : lw_okq (⟨"ScaleForgeModel", "holdsOn", "(I)Z"⟩, 56) := ⟨⟨by decide +kernel, by decide +kernel⟩, List.mem_of_getElem? (i := 1281) (by decide +kernel), List.mem_of_getElem? (i := 1988) (by decide +kernel), List.mem_of_getElem? (i := 1989) (by decide +kernel)⟩
theorem lw_p110 : lw_okq (⟨"ScaleForgeModel", "doesAny", "()Z"⟩, 56) := ⟨⟨by decide +kernel, by decide +kernel⟩, List.mem_of_getElem? (i := 1281) (by decide +kernel), List.mem_of_getElem? (i := 1992) (by decide +kernel), List.mem_of_getElem? (i := 1993) (by decide +kernel)⟩
theorem lw_p111 : lw_okq (⟨"ScaleForgeModel", "draw", "(I)I"⟩, 56) := ⟨⟨by decide +kernel, by decide +kernel⟩, List.mem_of_getElem? (i := 1281) (by decide +kernel), List.mem_of_getElem? (i := 1996) (by decide +kernel), List.mem_of_getElem? (i := 1997) (by decide +kernel)⟩
def lw_privs_7 : List (MethodName × Nat) := [(⟨"ScaleForgeModel", "toneOfKey", "(I)I"⟩, 56), (⟨"ScaleForgeModel", "bestKey", "(I)I"⟩, 56), (⟨"ScaleForgeModel", "laysWay", "()Z"⟩, 56), (⟨"ScaleForgeModel", "arrives", "()V"⟩, 56), (⟨"ScaleForgeModel", "apart", "(II)I"⟩, 56), (⟨"ScaleForgeModel", "laysGuesses", "()I"⟩, 56), (⟨"ScaleForgeModel", "laysConvergents", "()I"⟩, 56), (⟨"ScaleForgeModel", "tellsBy", "(JJ)Z"⟩, 56), (⟨"ScaleForgeModel", "areBeside", "(II)Z"⟩, 56), (⟨"ScaleForgeModel", "lives", "(I)V"⟩, 56), (⟨"ScaleForgeModel", "does", "(I)Z"⟩, 56), (⟨"ScaleForgeModel", "ranIf", "(IZ)Z"⟩, 56), (⟨"ScaleForgeModel", "roots", "(I)Z"⟩, 56), (⟨"ScaleForgeModel", "holdsOn", "(I)Z"⟩, 56), (⟨"ScaleForgeModel", "doesAny", "()Z"⟩, 56), (⟨"ScaleForgeModel", "draw", "(I)I"⟩, 56)]
theorem lw_r7 : ∀ q ∈ lw_privs_7, lw_okq q := List.forall_mem_cons.mpr ⟨lw_p96, List.forall_mem_cons.mpr ⟨lw_p97, List.forall_mem_cons.mpr ⟨lw_p98, List.forall_mem_cons.mpr ⟨lw_p99, List.forall_mem_cons.mpr ⟨lw_p100, List.forall_mem_cons.mpr ⟨lw_p101, List.forall_mem_cons.mpr ⟨lw_p102, List.forall_mem_cons.mpr ⟨lw_p103, List.forall_mem_cons.mpr ⟨lw_p104, List.forall_mem_cons.mpr ⟨lw_p105, List.forall_mem_cons.mpr ⟨lw_p106, List.forall_mem_cons.mpr ⟨lw_p107, List.forall_mem_cons.mpr ⟨lw_p108, List.forall_mem_cons.mpr ⟨lw_p109, List.forall_mem_cons.mpr ⟨lw_p110, List.forall_mem_cons.mpr ⟨lw_p111, fun _ h => absurd h List.not_mem_nil⟩⟩⟩⟩⟩⟩⟩⟩⟩⟩⟩⟩⟩⟩⟩⟩
theorem lw_p112 : lw_okq (⟨"ScaleForgeModel", "behind", "(IZ)I"⟩, 56) := ⟨⟨by decide +kernel, by decide +kernel⟩, List.mem_of_getElem? (i := 1281) (by decide +kernel), List.mem_of_getElem? (i := 2001) (by decide +kernel), List.mem_of_getElem? (i := 2002) (by decide +kernel)⟩
theorem lw_p113 : lw_okq (⟨"ScaleForgeModel", "behindEnds", "(I)I"⟩, 56) := ⟨⟨by decide +kernel, by decide +kernel⟩, List.mem_of_getElem? (i := 1281) (by decide +kernel), List.mem_of_getElem? (i := 2005) (by decide +kernel), List.mem_of_getElem? (i := 2006) (by decide +kernel)⟩
theorem lw_p114 : lw_okq (⟨"ScaleForgeModel", "letsGo", "()V"⟩, 56) := ⟨⟨by decide +kernel, by decide +kernel⟩, List.mem_of_getElem? (i := 1281) (by decide +kernel), List.mem_of_getElem? (i := 2009) (by decide +kernel), List.mem_of_getElem? (i := 2010) (by decide +kernel)⟩
theorem lw_p115 : lw_okq (⟨"ScaleForgeModel", "holds", "(I)Z"⟩, 56) := ⟨⟨by decide +kernel, by decide +kernel⟩, List.mem_of_getElem? (i := 1281) (by decide +kernel), List.mem_of_getElem? (i := 2013) (by decide +kernel), List.mem_of_getElem? (i := 2014) (by decide +kernel)⟩
theorem lw_p116 : lw_okq (⟨"ScaleForgeModel", "brings", "(I)V"⟩, 56) := ⟨⟨by decide +kernel, by decide +kernel⟩, List.mem_of_getElem? (i := 1281) (by decide +kernel), List.mem_of_getElem? (i := 2030) (by decide +kernel), List.mem_of_getElem? (i := 2031) (by decide +kernel)⟩
theorem lw_p117 : lw_okq (⟨"ScaleForgeModel", "copies", "(II)V"⟩, 56) := ⟨⟨by decide +kernel, by decide +kernel⟩, List.mem_of_getElem? (i := 1281) (by decide +kernel), List.mem_of_getElem? (i := 2038) (by decide +kernel), List.mem_of_getElem? (i := 2039) (by decide +kernel)⟩
def lw_privs_8 : List (MethodName × Nat) := [(⟨"ScaleForgeModel", "behind", "(IZ)I"⟩, 56), (⟨"ScaleForgeModel", "behindEnds", "(I)I"⟩, 56), (⟨"ScaleForgeModel", "letsGo", "()V"⟩, 56), (⟨"ScaleForgeModel", "holds", "(I)Z"⟩, 56), (⟨"ScaleForgeModel", "brings", "(I)V"⟩, 56), (⟨"ScaleForgeModel", "copies", "(II)V"⟩, 56)]
theorem lw_r8 : ∀ q ∈ lw_privs_8, lw_okq q := List.forall_mem_cons.mpr ⟨lw_p112, List.forall_mem_cons.mpr ⟨lw_p113, List.forall_mem_cons.mpr ⟨lw_p114, List.forall_mem_cons.mpr ⟨lw_p115, List.forall_mem_cons.mpr ⟨lw_p116, List.forall_mem_cons.mpr ⟨lw_p117, fun _ h => absurd h List.not_mem_nil⟩⟩⟩⟩⟩⟩
def lw_privs : List (MethodName × Nat) := lw_privs_1 ++ (lw_privs_2 ++ (lw_privs_3 ++ (lw_privs_4 ++ (lw_privs_5 ++ (lw_privs_6 ++ (lw_privs_7 ++ (lw_privs_8)))))))
def lw_tbl : List Cond := k2_sels lw_privs ++ tables_1
theorem lw_privs_ok : ∀ q ∈ lw_privs, lw_okq q := by
  show ∀ q ∈ lw_privs_1 ++ (lw_privs_2 ++ (lw_privs_3 ++ (lw_privs_4 ++ (lw_privs_5 ++ (lw_privs_6 ++ (lw_privs_7 ++ (lw_privs_8))))))), lw_okq q
  exact List.forall_mem_append.mpr ⟨lw_r1, List.forall_mem_append.mpr ⟨lw_r2, List.forall_mem_append.mpr ⟨lw_r3, List.forall_mem_append.mpr ⟨lw_r4, List.forall_mem_append.mpr ⟨lw_r5, List.forall_mem_append.mpr ⟨lw_r6, List.forall_mem_append.mpr ⟨lw_r7, lw_r8⟩⟩⟩⟩⟩⟩⟩
end
section
/-! A small machine: values are the machine's, but .ref k names the k-th cell of the world (k < 1000000) or an outer cell; the heap is a row of shapes (kind, size) and three tables of contents. Its runs are runs of the machine (part 04). -/
abbrev ij_M : Type := (Nat → Nat → Int32) × (Nat → Nat → Int64) × (Nat → Nat → Option Nat)
abbrev ij_H : Type := List (Nat × Nat) × ij_M
abbrev ij_L : Type := List (Option Value)
abbrev ij_E : Type := Instr × Nat × Nat × Nat × Nat
abbrev ij_X : Type := Nat → Option (Nat × Nat × (Nat → Int32))
def ij_ui (f : Nat → Nat → Int32) (j k : Nat) (v : Int32) : Nat → Nat → Int32 := fun a => if a = j then upd (f j) k v else f a
def ij_ul (f : Nat → Nat → Int64) (j k : Nat) (v : Int64) : Nat → Nat → Int64 := fun a => if a = j then vp_updL (f j) k v else f a
def ij_ur (f : Nat → Nat → Option Nat) (j k : Nat) (v : Option Nat) : Nat → Nat → Option Nat := fun a => if a = j then va_up (f j) k v else f a
def ij_row {α : Type} (f : Nat → Nat → α) (j : Nat) (r : Nat → α) : Nat → Nat → α := fun a => if a = j then r else f a
/-! locals -/
def ij_kill (ls : ij_L) (i : Nat) : ij_L := match i with
  | 0 => ls
  | j + 1 => match ls[j]? with
    | some (some (.long _)) => ls.set j none
    | some (some (.double _)) => ls.set j none
    | _ => ls
def ij_st1 (ls : ij_L) (i : Nat) (v : Value) : Option ij_L := if i < ls.length then some ((ij_kill ls i).set i (some v)) else none
def ij_st2 (ls : ij_L) (i : Nat) (v : Value) : Option ij_L := if i + 1 < ls.length then some (((ij_kill ls i).set (i + 1) none).set i (some v)) else none
def ij_ldi (ls : ij_L) (st : List Value) (i : Nat) : Option (ij_L × List Value) := match ls[i]? with
  | some (some (.int x)) => some (ls, .int x :: st)
  | _ => none
def ij_ldl (ls : ij_L) (st : List Value) (i : Nat) : Option (ij_L × List Value) := match ls[i]? with
  | some (some (.long x)) => some (ls, .long x :: st)
  | _ => none
def ij_lda (ls : ij_L) (st : List Value) (i : Nat) : Option (ij_L × List Value) := match ls[i]? with
  | some (some (.ref x)) => if x = 1999999 then none else some (ls, .ref x :: st)
  | some (some .null) => some (ls, .null :: st)
  | _ => none
def ij_sti (ls : ij_L) (st : List Value) (i : Nat) : Option (ij_L × List Value) := match st with
  | .int x :: r => (ij_st1 ls i (.int x)).map (fun l => (l, r))
  | _ => none
def ij_stl (ls : ij_L) (st : List Value) (i : Nat) : Option (ij_L × List Value) := match st with
  | .long x :: r => (ij_st2 ls i (.long x)).map (fun l => (l, r))
  | _ => none
def ij_sta (ls : ij_L) (st : List Value) (i : Nat) : Option (ij_L × List Value) := match st with
  | .ref x :: r => if x = 1999999 then none else (ij_st1 ls i (.ref x)).map (fun l => (l, r))
  | .null :: r => (ij_st1 ls i .null).map (fun l => (l, r))
  | _ => none
/-- constants, loads, stores -/
def ij_sL (i : Instr) (ls : ij_L) (st : List Value) : Option (ij_L × List Value) := match i with
  | .iconst n => some (ls, .int (Int32.ofInt n) :: st)
  | .bipush n => some (ls, .int (Int8.ofInt n).toInt32 :: st)
  | .sipush n => some (ls, .int (Int16.ofInt n).toInt32 :: st)
  | .lconst n => some (ls, .long (Int64.ofNat (n : Nat)) :: st)
  | .aconst_null => some (ls, .null :: st)
  | .iload k => ij_ldi ls st k
  | .iload_n k => ij_ldi ls st k
  | .lload k => ij_ldl ls st k
  | .lload_n k => ij_ldl ls st k
  | .aload k => ij_lda ls st k
  | .aload_n k => ij_lda ls st k
  | .istore k => ij_sti ls st k
  | .istore_n k => ij_sti ls st k
  | .lstore k => ij_stl ls st k
  | .lstore_n k => ij_stl ls st k
  | .astore k => ij_sta ls st k
  | .astore_n k => ij_sta ls st k
  | .iinc k n => match ls[k]? with
    | some (some (.int x)) => (ij_st1 ls k (.int (x + Int32.ofInt n))).map (fun l => (l, st))
    | _ => none
  | _ => none
/-- arithmetic on ints -/
def ij_sA (i : Instr) (st : List Value) : Option (List Value) := match st with
  | .int y :: .int x :: r => (match i with
    | .iadd => some (.int (x + y) :: r)
    | .isub => some (.int (x - y) :: r)
    | .imul => some (.int (x * y) :: r)
    | .iand => some (.int (x &&& y) :: r)
    | .ior => some (.int (x ||| y) :: r)
    | .ixor => some (.int (x ^^^ y) :: r)
    | .idiv => if y = 0 then none else some (.int (x / y) :: r)
    | .irem => if y = 0 then none else some (.int (x - x / y * y) :: r)
    | .ishl => some (.int (x <<< (y &&& 31)) :: r)
    | .ishr => some (.int (x >>> (y &&& 31)) :: r)
    | _ => none)
  | _ => none
/-- arithmetic on longs, conversions, the stack -/
def ij_sB (i : Instr) (st : List Value) : Option (List Value) := match i with
  | .ladd => (match st with
    | .long y :: .long x :: r => some (.long (x + y) :: r)
    | _ => none)
  | .lsub => (match st with
    | .long y :: .long x :: r => some (.long (x - y) :: r)
    | _ => none)
  | .lmul => (match st with
    | .long y :: .long x :: r => some (.long (x * y) :: r)
    | _ => none)
  | .land => (match st with
    | .long y :: .long x :: r => some (.long (x &&& y) :: r)
    | _ => none)
  | .lor => (match st with
    | .long y :: .long x :: r => some (.long (x ||| y) :: r)
    | _ => none)
  | .lxor => (match st with
    | .long y :: .long x :: r => some (.long (x ^^^ y) :: r)
    | _ => none)
  | .ldiv => (match st with
    | .long y :: .long x :: r => if y = 0 then none else some (.long (x / y) :: r)
    | _ => none)
  | .lrem => (match st with
    | .long y :: .long x :: r => if y = 0 then none else some (.long (x - x / y * y) :: r)
    | _ => none)
  | .lcmp => (match st with
    | .long y :: .long x :: r => some (.int (lg_cmp x y) :: r)
    | _ => none)
  | .lshl => (match st with
    | .int y :: .long x :: r => some (.long (x <<< (y.toInt64 &&& 63)) :: r)
    | _ => none)
  | .lushr => (match st with
    | .int y :: .long x :: r => some (.long (x.toUInt64 >>> (y.toInt64.toUInt64 &&& Int64.toUInt64 63)).toInt64 :: r)
    | _ => none)
  | .ineg => (match st with
    | .int x :: r => some (.int (-x) :: r)
    | _ => none)
  | .i2l => (match st with
    | .int x :: r => some (.long x.toInt64 :: r)
    | _ => none)
  | .i2b => (match st with
    | .int x :: r => some (.int x.toInt8.toInt32 :: r)
    | _ => none)
  | .i2s => (match st with
    | .int x :: r => some (.int x.toInt16.toInt32 :: r)
    | _ => none)
  | .i2c => (match st with
    | .int x :: r => some (.int (x.toUInt32 % 65536).toInt32 :: r)
    | _ => none)
  | .l2i => (match st with
    | .long x :: r => some (.int x.toInt32 :: r)
    | _ => none)
  | .dup => (match st with
    | .int x :: r => some (.int x :: .int x :: r)
    | .ref x :: r => some (.ref x :: .ref x :: r)
    | _ => none)
  | .dup2 => (match st with
    | .int y :: .ref x :: r => some (.int y :: .ref x :: .int y :: .ref x :: r)
    | _ => none)
  | .pop => (match st with
    | .int _ :: r => some r
    | _ => none)
  | _ => none
/-- jumps: the next place, and the stack -/
def ij_tg (pc : Nat) (off : Int) : Nat := ((pc : Int) + off).toNat
def ij_bI (i : Instr) (pc : Nat) (st : List Value) : Option (Nat × List Value) := match i with
  | .goto o => some (ij_tg pc o, st)
  | .ifCond k o => (match st with
    | .int x :: r => (match k with
      | .eq => some (if x = 0 then ij_tg pc o else pc + 3, r)
      | .ne => some (if x = 0 then pc + 3 else ij_tg pc o, r)
      | .lt => some (if x < 0 then ij_tg pc o else pc + 3, r)
      | .ge => some (if 0 ≤ x then ij_tg pc o else pc + 3, r)
      | .gt => some (if 0 < x then ij_tg pc o else pc + 3, r)
      | .le => some (if x ≤ 0 then ij_tg pc o else pc + 3, r))
    | _ => none)
  | .if_icmp k o => (match st with
    | .int y :: .int x :: r => (match k with
      | .eq => some (if x = y then ij_tg pc o else pc + 3, r)
      | .ne => some (if x = y then pc + 3 else ij_tg pc o, r)
      | .lt => some (if x < y then ij_tg pc o else pc + 3, r)
      | .ge => some (if y ≤ x then ij_tg pc o else pc + 3, r)
      | .gt => some (if y < x then ij_tg pc o else pc + 3, r)
      | .le => some (if x ≤ y then ij_tg pc o else pc + 3, r))
    | _ => none)
  | .ifnull o => (match st with
    | .ref x :: r => if x = 1999999 then none else some (pc + 3, r)
    | .null :: r => some (ij_tg pc o, r)
    | _ => none)
  | .ifnonnull o => (match st with
    | .ref x :: r => if x = 1999999 then none else some (ij_tg pc o, r)
    | .null :: r => some (pc + 3, r)
    | _ => none)
  | .tableswitch d lo hi os => (match st with
    | .int x :: r => if x.toInt < lo ∨ hi < x.toInt then some (ij_tg pc d, r) else (match os[(x.toInt - lo).toNat]? with
      | some o => some (ij_tg pc o, r)
      | none => none)
    | _ => none)
  | _ => none
/-- is this jump within bounds -/
def ij_jok (pc : Nat) (i : Instr) : Bool := match i with
  | .goto o => decide (0 ≤ (pc : Int) + o)
  | .ifCond _ o => decide (0 ≤ (pc : Int) + o)
  | .if_icmp _ o => decide (0 ≤ (pc : Int) + o)
  | .ifnull o => decide (0 ≤ (pc : Int) + o)
  | .ifnonnull o => decide (0 ≤ (pc : Int) + o)
  | .tableswitch d _ _ os => decide (0 ≤ (pc : Int) + d) && os.toList.all (fun o => decide (0 ≤ (pc : Int) + o))
  | _ => true
/-! the heap. Kinds: below 100 an object of that class; 100 int[], 101 long[], 102 byte[], 103 boolean[], 104 .. arrays of objects of the classes 8, 4, 6. -/
/-- of a class's field: 0 an int, 1 a long, 2 a reference, 3 a boolean -/
def ij_fk (tt : Nat → Nat → Nat) (ci k : Nat) : Nat := tt ci k
def ij_rv (o : Option Nat) : Option Value := match o with
  | none => some .null
  | some x => if x < 1000000 then some (.ref x) else none
def ij_fv (t : Nat) (m : ij_M) (j k : Nat) : Option Value := match t with
  | 1 => some (.long (m.2.1 j k))
  | 2 => ij_rv (m.2.2 j k)
  | _ => some (.int (m.1 j k))
def ij_put (t : Nat) (m : ij_M) (j k : Nat) (v : Value) : Option ij_M := match t, v with
  | 0, .int x => some (ij_ui m.1 j k x, m.2.1, m.2.2)
  | 1, .long x => some (m.1, ij_ul m.2.1 j k x, m.2.2)
  | 2, .ref x => if x < 1000000 then some (m.1, m.2.1, ij_ur m.2.2 j k (some x)) else none
  | 3, .int x => if x = 0 ∨ x = 1 then some (ij_ui m.1 j k x, m.2.1, m.2.2) else none
  | _, _ => none
def ij_new (h : ij_H) (kd n : Nat) : ij_H := (h.1 ++ [(kd, n)], ij_row h.2.1 h.1.length (fun _ => 0), ij_row h.2.2.1 h.1.length (fun _ => 0), ij_row h.2.2.2 h.1.length (fun _ => none))
def ij_akind (t : ArrayType) : Nat := match t with
  | .int => 100
  | .long => 101
  | .byte => 102
  | .boolean => 103
  | _ => 0
def ij_ecl (kd : Nat) : Nat := match kd with
  | 104 => 8
  | 105 => 4
  | _ => 6
/-- reads: arrays, fields, statics, constants that stand in the tables -/
def ij_hR (tt : Nat → Nat → Nat) (xt : ij_X) (i : Instr) (a b : Nat) (st : List Value) (h : ij_H) : Option (List Value) := match i with
  | .getfield _ => (match st with
    | .ref j :: r => if j < 1000000 then (match h.1[j]? with
        | some (kd, n) => if kd = a ∧ a < 100 ∧ b < n then (ij_fv (tt a b) h.2 j b).map (fun v => v :: r) else none
        | none => none)
      else if 1000010 ≤ j ∧ j < 1000034 ∧ a = 114 then (match b with
        | 0 => some (.ref (j + 50) :: r)
        | 1 => some (.int 0 :: r)
        | _ => none)
      else none
    | _ => none)
  | .iaload => (match st with
    | .int i :: .ref j :: r => if j < 1000000 then (match h.1[j]? with
        | some (100, n) => if i < 0 ∨ n ≤ i.toNatClampNeg then none else some (.int (h.2.1 j i.toNatClampNeg) :: r)
        | _ => none)
      else (match xt j with
        | some (100, n, f) => if i < 0 ∨ n ≤ i.toNatClampNeg then none else some (.int (f i.toNatClampNeg) :: r)
        | _ => none)
    | _ => none)
  | .baload => (match st with
    | .int i :: .ref j :: r => if j < 1000000 then (match h.1[j]? with
        | some (102, n) => if i < 0 ∨ n ≤ i.toNatClampNeg then none else some (.int (h.2.1 j i.toNatClampNeg) :: r)
        | some (103, n) => if i < 0 ∨ n ≤ i.toNatClampNeg then none else some (.int (h.2.1 j i.toNatClampNeg) :: r)
        | _ => none)
      else (match xt j with
        | some (102, n, f) => if i < 0 ∨ n ≤ i.toNatClampNeg then none else some (.int (f i.toNatClampNeg) :: r)
        | _ => none)
    | _ => none)
  | .laload => (match st with
    | .int i :: .ref j :: r => if j < 1000000 then (match h.1[j]? with
        | some (101, n) => if i < 0 ∨ n ≤ i.toNatClampNeg then none else some (.long (h.2.2.1 j i.toNatClampNeg) :: r)
        | _ => none)
      else none
    | _ => none)
  | .aaload => (match st with
    | .int i :: .ref j :: r => if j < 1000000 then (match h.1[j]? with
        | some (kd, n) => if kd < 104 ∨ 106 < kd ∨ i < 0 ∨ n ≤ i.toNatClampNeg then none else (ij_rv (h.2.2.2 j i.toNatClampNeg)).map (fun v => v :: r)
        | none => none)
      else none
    | _ => none)
  | .arraylength => (match st with
    | .ref j :: r => if j < 1000000 then (match h.1[j]? with
        | some (kd, n) => if kd < 100 ∨ 106 < kd then none else some (.int (Int32.ofNat n) :: r)
        | none => none)
      else (match xt j with
        | some (_, n, _) => some (.int (Int32.ofNat n) :: r)
        | none => none)
    | _ => none)
  | .getstatic _ => (match a with
    | 0 => some (.ref 1000001 :: st)
    | 1 => some (.ref 1000002 :: st)
    | 2 => some (.ref 1000003 :: st)
    | 3 => some (.int 1 :: st)
    | 4 => some (.ref 1999999 :: st)
    | _ => none)
  | .ldc _ => (match a with
    | 0 => some (.int (Int32.ofNat b) :: st)
    | 1 => if b < 24 then some (.ref (1000010 + b) :: st) else none
    | _ => none)
  | .ldc_w _ => (match a with
    | 0 => some (.int (Int32.ofNat b) :: st)
    | _ => none)
  | .ldc2_w _ => some (.long (Int64.ofNat b) :: st)
  | .invokespecial _ => (match a, st with
    | 999999, .ref j :: r => if j < 1000000 ∧ (r.map fun v => v.category).sum ≤ 8 then some r else none
    | _, _ => none)
  | _ => none
/-- writes: fields, arrays, new cells, copies -/
def ij_hW (tt : Nat → Nat → Nat) (xt : ij_X) (i : Instr) (a b : Nat) (st : List Value) (h : ij_H) : Option (List Value × ij_H) := match i with
  | .putfield _ => (match st with
    | v :: .ref j :: r => if j < 1000000 then (match h.1[j]? with
        | some (kd, n) => if kd = a ∧ a < 100 ∧ b < n then (ij_put (tt a b) h.2 j b v).map (fun m => (r, h.1, m)) else none
        | none => none)
      else none
    | _ => none)
  | .iastore => (match st with
    | .int x :: .int i :: .ref j :: r => if j < 1000000 then (match h.1[j]? with
        | some (100, n) => if i < 0 ∨ n ≤ i.toNatClampNeg then none else some (r, h.1, ij_ui h.2.1 j i.toNatClampNeg x, h.2.2)
        | _ => none)
      else none
    | _ => none)
  | .bastore => (match st with
    | .int x :: .int i :: .ref j :: r => if j < 1000000 then (match h.1[j]? with
        | some (102, n) => if i < 0 ∨ n ≤ i.toNatClampNeg then none else some (r, h.1, ij_ui h.2.1 j i.toNatClampNeg (vp_nar .byte x), h.2.2)
        | some (103, n) => if i < 0 ∨ n ≤ i.toNatClampNeg then none else some (r, h.1, ij_ui h.2.1 j i.toNatClampNeg (vp_nar .boolean x), h.2.2)
        | _ => none)
      else none
    | _ => none)
  | .lastore => (match st with
    | .long x :: .int i :: .ref j :: r => if j < 1000000 then (match h.1[j]? with
        | some (101, n) => if i < 0 ∨ n ≤ i.toNatClampNeg then none else some (r, h.1, h.2.1, ij_ul h.2.2.1 j i.toNatClampNeg x, h.2.2.2)
        | _ => none)
      else none
    | _ => none)
  | .aastore => (match st with
    | .ref v :: .int i :: .ref j :: r => if j < 1000000 ∧ v < 1000000 then (match h.1[j]?, h.1[v]? with
        | some (kd, n), some (kv, _) => if kd < 104 ∨ 106 < kd ∨ ¬ kv = ij_ecl kd ∨ i < 0 ∨ n ≤ i.toNatClampNeg then none else some (r, h.1, h.2.1, h.2.2.1, ij_ur h.2.2.2 j i.toNatClampNeg (some v))
        | _, _ => none)
      else none
    | _ => none)
  | .newarray t => (match st with
    | .int n :: r => if n < 0 ∨ ij_akind t = 0 ∨ 65536 < n.toNatClampNeg ∨ 999999 < h.1.length then none else some (.ref h.1.length :: r, ij_new h (ij_akind t) n.toNatClampNeg)
    | _ => none)
  | .anewarray _ => (match st with
    | .int n :: r => if n < 0 ∨ a < 104 ∨ 106 < a ∨ 65536 < n.toNatClampNeg ∨ 999999 < h.1.length then none else some (.ref h.1.length :: r, ij_new h a n.toNatClampNeg)
    | _ => none)
  | .new _ => if a < 12 ∧ h.1.length < 1000000 then some (.ref h.1.length :: st, ij_new h a b) else none
  | .invokestatic _ => (match a, st with
    | 999998, .int n :: .int dp :: .ref d :: .int sp :: .ref s :: r =>
      if d < 1000000 ∧ ¬ sp < 0 ∧ ¬ dp < 0 ∧ ¬ n < 0 ∧ (r.map fun v => v.category).sum ≤ 8 then (match h.1[d]? with
        | some (100, n1) => if n1 < dp.toNatClampNeg + n.toNatClampNeg then none else if s < 1000000 then (match h.1[s]? with
            | some (100, n0) => if n0 < sp.toNatClampNeg + n.toNatClampNeg then none else some (r, h.1, ij_row h.2.1 d (va_cpy (h.2.1 s) (h.2.1 d) sp.toNatClampNeg dp.toNatClampNeg n.toNatClampNeg), h.2.2)
            | _ => none)
          else (match xt s with
            | some (100, n0, f) => if n0 < sp.toNatClampNeg + n.toNatClampNeg then none else some (r, h.1, ij_row h.2.1 d (va_cpy f (h.2.1 d) sp.toNatClampNeg dp.toNatClampNeg n.toNatClampNeg), h.2.2)
            | _ => none)
        | some (101, n1) => if n1 < dp.toNatClampNeg + n.toNatClampNeg then none else if s < 1000000 then (match h.1[s]? with
            | some (101, n0) => if n0 < sp.toNatClampNeg + n.toNatClampNeg then none else some (r, h.1, h.2.1, ij_row h.2.2.1 d (va_cpy (h.2.2.1 s) (h.2.2.1 d) sp.toNatClampNeg dp.toNatClampNeg n.toNatClampNeg), h.2.2.2)
            | _ => none)
          else none
        | _ => none)
      else none
    | _, _ => none)
  | _ => none
/-- ends: rt 0 void, 1 int, 2 long, 3 boolean, 4 byte, 5 char, 6 a reference -/
def ij_rI (rt : Nat) (i : Instr) (st : List Value) : Option (Option Value) := match i with
  | .return_ => (match rt, st with
    | 0, [] => some none
    | _, _ => none)
  | .ireturn => (match st with
    | [.int x] => (match rt with
      | 1 => some (some (.int x))
      | 3 => if x = 0 ∨ x = 1 then some (some (.int x)) else none
      | 4 => if narrow .byte (.int x) = .int x then some (some (.int x)) else none
      | 5 => if narrow .char (.int x) = .int x then some (some (.int x)) else none
      | _ => none)
    | _ => none)
  | .lreturn => (match rt, st with
    | 2, [.long x] => some (some (.long x))
    | _, _ => none)
  | .areturn => (match rt, st with
    | 6, [.ref x] => if x = 1999999 then none else some (some (.ref x))
    | 6, [.null] => some (some .null)
    | _, _ => none)
  | _ => none
/-- calls: kinds 1 static, 4 static of a nest mate, 2 special, 3 special of a nest mate, 10 + ci virtual on an object of the class ci, 30 virtual on a String: the arguments (the receiver first), the rest of the stack -/
def ij_cI (i : Instr) (n c : Nat) (st : List Value) (h : ij_H) : Option (List Value × List Value) := match i with
  | .invokevirtual _ => (match st[n]? with
    | some (.ref j) => if ((10 ≤ c ∧ c < 22 ∧ j < 1000000 ∧ (h.1[j]?).map Prod.fst = some (c - 10)) ∨ (c = 30 ∧ 1000010 ≤ j ∧ j < 1000034)) ∧ (((st.drop (n + 1)).map fun v => v.category).sum) ≤ 8 then some ((st.take (n + 1)).reverse, st.drop (n + 1)) else none
    | _ => none)
  | .invokestatic _ => if (c = 1 ∨ c = 4) ∧ n ≤ st.length ∧ (((st.drop n).map fun v => v.category).sum) ≤ 8 then some ((st.take n).reverse, st.drop n) else none
  | .invokespecial _ => (match st[n]? with
    | some (.ref j) => if (c = 2 ∨ c = 3) ∧ j < 1000000 ∧ (((st.drop (n + 1)).map fun v => v.category).sum) ≤ 8 then some ((st.take (n + 1)).reverse, st.drop (n + 1)) else none
    | _ => none)
  | _ => none
/-- the locals with which a method begins -/
def ij_ent : List Value → ij_L
  | [] => []
  | .long x :: r => some (.long x) :: none :: ij_ent r
  | .double x :: r => some (.double x) :: none :: ij_ent r
  | v :: r => some v :: ij_ent r
def ij_entry (nL : Nat) (as : List Value) : Option ij_L := if (ij_ent as).length ≤ nL then some (ij_ent as ++ List.replicate (nL - (ij_ent as).length) none) else none
/-- tables of a program: a method's rows, its number of locals, its kind of answer; a class's kinds of fields -/
abbrev ij_G : Type := (Nat → List (Nat × ij_E)) × (Nat → Nat) × (Nat → Nat) × (Nat → Nat → Nat)
def ij_run (G : ij_G) (xt : ij_X) : Nat → Nat → Nat → ij_L → List Value → ij_H → Option (Option Value × ij_H)
  | 0, _, _, _, _, _ => none
  | n + 1, y, pc, ls, st, h => match (G.1 y).lookup pc with
    | none => none
    | some (i, len, a, b, c) => match ij_sL i ls st with
      | some q => ij_run G xt n y (pc + len) q.1 q.2 h
      | none => match ij_sA i st with
        | some q => ij_run G xt n y (pc + len) ls q h
        | none => match ij_bI i pc st with
          | some q => ij_run G xt n y q.1 ls q.2 h
          | none => match ij_hR G.2.2.2 xt i a b st h with
            | some q => ij_run G xt n y (pc + len) ls q h
            | none => match ij_sB i st with
              | some q => ij_run G xt n y (pc + len) ls q h
              | none => match ij_hW G.2.2.2 xt i a b st h with
                | some q => ij_run G xt n y (pc + len) ls q.1 q.2
                | none => match ij_rI (G.2.2.1 y) i st with
                  | some q => some (q, h)
                  | none => match ij_cI i b c st h with
                    | some q => (match ij_entry (G.2.1 a) q.1 with
                      | some l0 => (match ij_run G xt n a 0 l0 [] h with
                        | some z => ij_run G xt n y (pc + 3) ls (z.1.toList ++ q.2) z.2
                        | none => none)
                      | none => none)
                    | none => none
end
section
/-! One step of the small machine is a step of the machine: locals, the stack, jumps. -/
abbrev ij_B : Type := Nat × (Nat → Nat) × Value
def ij_ad (B : ij_B) (k : Nat) : Nat := if k < 1000000 then B.1 + k else B.2.1 k
def ij_cv (B : ij_B) (v : Value) : Value := match v with
  | .ref k => if k = 1999999 then B.2.2 else .ref (ij_ad B k)
  | v => v
theorem ij_cv_ref (B : ij_B) {k : Nat} (h : ¬ k = 1999999) : ij_cv B (.ref k) = .ref (ij_ad B k) := if_neg h
theorem ij_ad_lt (B : ij_B) {k : Nat} (h : k < 1000000) : ij_ad B k = B.1 + k := if_pos h
theorem ij_ad_ge (B : ij_B) {k : Nat} (h : ¬ k < 1000000) : ij_ad B k = B.2.1 k := if_neg h
theorem ij_cv_cell (B : ij_B) {k : Nat} (h : k < 1000000) : ij_cv B (.ref k) = .ref (B.1 + k) := by
  rw [ij_cv_ref B (by omega), ij_ad_lt B h]
theorem ij_cv_out (B : ij_B) {k : Nat} (h : ¬ k < 1000000) (h2 : ¬ k = 1999999) : ij_cv B (.ref k) = .ref (B.2.1 k) := by
  rw [ij_cv_ref B h2, ij_ad_ge B h]
theorem ij_cv_cat (B : ij_B) (hB : B.2.2.category = 1) (v : Value) : (ij_cv B v).category = v.category := by
  cases v with
  | ref k =>
    by_cases h : k = 1999999
    · subst h; exact hB
    · rw [ij_cv_ref B h]; rfl
  | _ => rfl
theorem ij_cv_sum (B : ij_B) (hB : B.2.2.category = 1) (st : List Value) : ((st.map (ij_cv B)).map fun v => v.category).sum = (st.map fun v => v.category).sum := by
  induction st with
  | nil => rfl
  | cons v t ih => simp only [List.map_cons, List.sum_cons, ih, ij_cv_cat B hB]
/-! locals -/
def ij_al (B : ij_B) (L : ij_L) : List (Nat × Value) := (List.range L.length).filterMap (fun i => (L[i]?.join).map (fun v => (i, ij_cv B v)))
theorem ij_al_mem {B : ij_B} {L : ij_L} {q : Nat × Value} : q ∈ ij_al B L ↔ ∃ v, L[q.1]? = some (some v) ∧ q.2 = ij_cv B v := by
  constructor
  · intro h
    obtain ⟨i, -, hi⟩ := List.mem_filterMap.mp h
    obtain ⟨v, hv, rfl⟩ := Option.map_eq_some_iff.mp hi
    exact ⟨v, Option.join_eq_some_iff.mp hv, rfl⟩
  · rintro ⟨v, hv, e⟩
    refine List.mem_filterMap.mpr ⟨q.1, List.mem_range.mpr (List.getElem?_eq_some_iff.mp hv).1, ?_⟩
    rw [hv]
    show some (q.1, ij_cv B v) = some q
    rw [← e]
def ij_LH (B : ij_B) (ls : Array Slot) (nL : Nat) (L : ij_L) : Prop := L.length = nL ∧ lv_has ls nL (ij_al B L)
theorem ij_LH.at {B : ij_B} {ls : Array Slot} {nL : Nat} {L : ij_L} (h : ij_LH B ls nL L) {i : Nat} {v : Value} (hv : L[i]? = some (some v)) : ls[i]? = some (.val (ij_cv B v)) :=
  h.2.2.2 (i, ij_cv B v) (ij_al_mem.mpr ⟨v, hv, rfl⟩)
theorem ij_kill_len (L : ij_L) (i : Nat) : (ij_kill L i).length = L.length := by
  unfold ij_kill
  split
  · rfl
  · split <;> simp
theorem ij_kill_spec {L : ij_L} {i j : Nat} {w : Value} (h : (ij_kill L i)[j]? = some (some w)) : L[j]? = some (some w) ∧ ¬ (j + 1 = i ∧ w.category = 2) := by
  unfold ij_kill at h
  split at h
  · exact ⟨h, fun q => by omega⟩
  · next j' =>
    split at h
    · next x hx =>
      rw [List.getElem?_set] at h
      split at h
      · split at h <;> cases h
      · next hne => exact ⟨h, fun q => hne (by omega)⟩
    · next x hx =>
      rw [List.getElem?_set] at h
      split at h
      · split at h <;> cases h
      · next hne => exact ⟨h, fun q => hne (by omega)⟩
    · next h1 h2 =>
      refine ⟨h, fun q => ?_⟩
      obtain ⟨q1, q2⟩ := q
      have e : j = j' := by omega
      subst e
      cases w with
      | long x => exact h1 x h
      | double x => exact h2 x h
      | _ => simp [Value.category] at q2
theorem ij_LH.st1 {B : ij_B} (hB : B.2.2.category = 1) {ls' : Array Slot} {nL i : Nat} {L L' : ij_L} {v : Value} (hL : L.length = nL) (hs : ij_st1 L i v = some L')
    (h : lv_has ls' nL ((i, ij_cv B v) :: (ij_al B L).filter (fun q => !(q.1 == i) && !(q.1 + 1 == i && q.2.category == 2)))) : ij_LH B ls' nL L' := by
  unfold ij_st1 at hs
  split at hs
  · next hi =>
    cases hs
    refine ⟨by simp [ij_kill_len, hL], h.1, h.2.1, fun q hq => h.2.2 q ?_⟩
    obtain ⟨w, hw, e⟩ := ij_al_mem.mp hq
    rw [List.getElem?_set] at hw
    split at hw
    · next hqi =>
      split at hw
      · cases hw
        have : q = (i, ij_cv B v) := by rw [hqi, ← e]
        rw [this]; exact List.mem_cons_self
      · cases hw
    · next hne =>
      obtain ⟨g1, g2⟩ := ij_kill_spec hw
      refine List.mem_cons_of_mem _ (List.mem_filter.mpr ⟨ij_al_mem.mpr ⟨w, g1, e⟩, ?_⟩)
      rw [e, ij_cv_cat B hB]
      simp only [Bool.and_eq_true, Bool.not_eq_true', beq_eq_false_iff_ne, ne_eq, Bool.and_eq_false_iff]
      refine ⟨fun q => hne q.symm, ?_⟩
      by_cases g3 : q.1 + 1 = i
      · exact Or.inr (fun g4 => g2 ⟨g3, g4⟩)
      · exact Or.inl g3
  · cases hs
theorem ij_LH.st2 {B : ij_B} (hB : B.2.2.category = 1) {ls' : Array Slot} {nL i : Nat} {L L' : ij_L} {v : Value} (hL : L.length = nL) (hs : ij_st2 L i v = some L')
    (h : lv_has ls' nL ((i, ij_cv B v) :: (ij_al B L).filter (fun q => !(q.1 == i) && (!(q.1 == i + 1) && !(q.1 + 1 == i && q.2.category == 2))))) : ij_LH B ls' nL L' := by
  unfold ij_st2 at hs
  split at hs
  · next hi =>
    cases hs
    refine ⟨by simp [ij_kill_len, hL], h.1, h.2.1, fun q hq => h.2.2 q ?_⟩
    obtain ⟨w, hw, e⟩ := ij_al_mem.mp hq
    rw [List.getElem?_set] at hw
    split at hw
    · next hqi =>
      split at hw
      · cases hw
        have : q = (i, ij_cv B v) := by rw [hqi, ← e]
        rw [this]; exact List.mem_cons_self
      · cases hw
    · next hne =>
      rw [List.getElem?_set] at hw
      split at hw
      · split at hw <;> cases hw
      · next hne2 =>
        obtain ⟨g1, g2⟩ := ij_kill_spec hw
        refine List.mem_cons_of_mem _ (List.mem_filter.mpr ⟨ij_al_mem.mpr ⟨w, g1, e⟩, ?_⟩)
        rw [e, ij_cv_cat B hB]
        simp only [Bool.and_eq_true, Bool.not_eq_true', beq_eq_false_iff_ne, ne_eq, Bool.and_eq_false_iff]
        refine ⟨fun q => hne q.symm, fun q => hne2 q.symm, ?_⟩
        by_cases g3 : q.1 + 1 = i
        · exact Or.inr (fun g4 => g2 ⟨g3, g4⟩)
        · exact Or.inl g3
  · cases hs
theorem ij_st1_lt {L L' : ij_L} {i : Nat} {v : Value} (hs : ij_st1 L i v = some L') : i < L.length := by
  unfold ij_st1 at hs
  split at hs
  · next h => exact h
  · cases hs
theorem ij_st2_lt {L L' : ij_L} {i : Nat} {v : Value} (hs : ij_st2 L i v = some L') : i + 1 < L.length := by
  unfold ij_st2 at hs
  split at hs
  · next h => exact h
  · cases hs
theorem ij_ent_cons (v : Value) (r : List Value) : ij_ent (v :: r) = if v.category = 2 then some v :: none :: ij_ent r else some v :: ij_ent r := by
  cases v <;> rfl
theorem ij_ent_args (B : ij_B) (hB : B.2.2.category = 1) (as : List Value) : ∀ (k i : Nat) (v : Value), (ij_ent as)[i]? = some (some v) → (k + i, ij_cv B v) ∈ lv_args k (as.map (ij_cv B)) := by
  induction as with
  | nil => intro k i v h; simp [ij_ent] at h
  | cons a r ih =>
    intro k i v h
    rw [ij_ent_cons a r] at h
    simp only [List.map_cons, lv_args, ij_cv_cat B hB]
    by_cases hc : a.category = 2
    · rw [if_pos hc] at h ⊢
      match i, h with
      | 0, h =>
        cases h
        exact List.mem_cons_self
      | 1, h => simp at h
      | i + 2, h =>
        have := ih (k + 2) i v (by simpa using h)
        rw [show k + 2 + i = k + (i + 2) by omega] at this
        exact List.mem_cons_of_mem _ this
    · rw [if_neg hc] at h ⊢
      match i, h with
      | 0, h =>
        cases h
        exact List.mem_cons_self
      | i + 1, h =>
        have := ih (k + 1) i v (by simpa using h)
        rw [show k + 1 + i = k + (i + 1) by omega] at this
        exact List.mem_cons_of_mem _ this
theorem ij_ent_len (B : ij_B) (hB : B.2.2.category = 1) (as : List Value) : (lg_sl (as.map (ij_cv B))).length = (ij_ent as).length := by
  induction as with
  | nil => rfl
  | cons a r ih =>
    rw [ij_ent_cons a r]
    simp only [List.map_cons, lg_sl, List.flatMap_cons, ij_cv_cat B hB, List.length_append] at ih ⊢
    rw [ih]
    by_cases hc : a.category = 2
    · simp [hc]; omega
    · simp [hc]; omega
/-- the lengths of instructions -/
def ij_len (i : Instr) : Nat := match i with
  | .bipush _ | .iload _ | .lload _ | .aload _ | .istore _ | .lstore _ | .astore _ | .ldc _ | .newarray _ => 2
  | .sipush _ | .iinc _ _ | .goto _ | .ifCond _ _ | .if_icmp _ _ | .ifnull _ | .ifnonnull _ | .getfield _ | .putfield _ | .getstatic _ | .ldc_w _ | .ldc2_w _ | .invokespecial _ | .invokestatic _ | .invokevirtual _ | .new _ | .anewarray _ => 3
  | _ => 1
section IJ
variable {p : Program} {l : Launch} {e : Env} {R : Room} {s : State} {m : MethodId} {args : Array Value} {below : List Frame} {meth : Method} {c : Code} {H : Heap} {locs : List Loc} {cells slots : Nat} {Q : State → Prop}
variable {cc : ByteArray} {pc : Nat} {ls : Array Slot} {B : ij_B}
theorem ij_sA_ok (hx : p.tables.exec = Jvm.exec) (hb : c.code = cc) {i : Instr} (hd : decode cc pc = .ok (i, ij_len i)) {st st' : List Value} (h : ij_sA i st = some st')
    (k : W p l e R s m args below meth c H locs cells slots Q (F0 m (pc + ij_len i) ls (st'.map (ij_cv B)))) : W p l e R s m args below meth c H locs cells slots Q (F0 m pc ls (st.map (ij_cv B))) := by
  unfold ij_sA at h
  split at h
  · split at h
    · cases h; exact lv_iadd hx hb hd k
    · cases h; exact lv_isub hx hb hd k
    · cases h; exact lv_imul hx hb hd k
    · cases h; exact lv_iand hx hb hd k
    · cases h; exact lv_ior hx hb hd k
    · cases h; exact lv_ixor hx hb hd k
    · split at h
      · cases h
      · next hy => cases h; exact lv_idiv hx hb hd hy k
    · split at h
      · cases h
      · next hy => cases h; exact lv_irem hx hb hd hy k
    · cases h; exact lv_ishl hx hb hd k
    · cases h; exact lv_ishr hx hb hd k
    · cases h
  · cases h
theorem ij_sB_ok (hB : B.2.2.category = 1) (hx : p.tables.exec = Jvm.exec) (hb : c.code = cc) {i : Instr} (hd : decode cc pc = .ok (i, ij_len i)) {st st' : List Value} (h : ij_sB i st = some st')
    (k : W p l e R s m args below meth c H locs cells slots Q (F0 m (pc + ij_len i) ls (st'.map (ij_cv B)))) : W p l e R s m args below meth c H locs cells slots Q (F0 m pc ls (st.map (ij_cv B))) := by
  unfold ij_sB at h
  split at h
  · split at h
    · cases h; exact lv_ladd hx hb hd k
    · cases h
  · split at h
    · cases h; exact lv_lsub hx hb hd k
    · cases h
  · split at h
    · cases h; exact lv_lmul hx hb hd k
    · cases h
  · split at h
    · cases h; exact lv_land hx hb hd k
    · cases h
  · split at h
    · cases h; exact lv_lor hx hb hd k
    · cases h
  · split at h
    · cases h; exact lv_lxor hx hb hd k
    · cases h
  · split at h
    · split at h
      · cases h
      · next hy => cases h; exact lv_ldiv hx hb hd hy k
    · cases h
  · split at h
    · split at h
      · cases h
      · next hy => cases h; exact lv_lrem hx hb hd hy k
    · cases h
  · split at h
    · cases h; exact W.lcmp hx hb hd k
    · cases h
  · split at h
    · cases h; exact lv_lshl hx hb hd rfl k
    · cases h
  · split at h
    · cases h; exact lv_lushr hx hb hd rfl k
    · cases h
  · split at h
    · cases h; exact lv_ineg hx hb hd k
    · cases h
  · split at h
    · cases h; exact lv_i2l hx hb hd rfl k
    · cases h
  · split at h
    · cases h; exact lv_i2b hx hb hd rfl k
    · cases h
  · split at h
    · cases h; exact lv_i2s hx hb hd rfl k
    · cases h
  · split at h
    · cases h; exact lv_i2c hx hb hd rfl k
    · cases h
  · split at h
    · cases h; exact lv_l2i hx hb hd rfl k
    · cases h
  · split at h
    · cases h; exact lv_dup hx hb hd rfl k
    · cases h; exact lv_dup hx hb hd (by rw [ij_cv_cat B hB]; rfl) k
    · cases h
  · split at h
    · cases h; exact lv_dup2_11 hx hb hd rfl (by rw [ij_cv_cat B hB]; rfl) k
    · cases h
  · split at h
    · cases h; exact lv_pop hx hb hd rfl k
    · cases h
  · cases h
theorem ij_tg_ok {o : Int} (h : 0 ≤ (pc : Int) + o) : (pc : Int) + o = (ij_tg pc o : Int) := by
  unfold ij_tg
  omega
theorem ij_ldi_ok {L L' : ij_L} {st st' : List Value} {i nL : Nat} (hL : ij_LH B ls nL L) (h : ij_ldi L st i = some (L', st')) : ∃ x : Int32, ls[i]? = some (.val (.int x)) ∧ L' = L ∧ st' = .int x :: st := by
  unfold ij_ldi at h
  split at h
  · next x hx => cases h; exact ⟨x, hL.at hx, rfl, rfl⟩
  · cases h
theorem ij_ldl_ok {L L' : ij_L} {st st' : List Value} {i nL : Nat} (hL : ij_LH B ls nL L) (h : ij_ldl L st i = some (L', st')) : ∃ x : Int64, ls[i]? = some (.val (.long x)) ∧ L' = L ∧ st' = .long x :: st := by
  unfold ij_ldl at h
  split at h
  · next x hx => cases h; exact ⟨x, hL.at hx, rfl, rfl⟩
  · cases h
theorem ij_lda_ok {L L' : ij_L} {st st' : List Value} {i nL : Nat} (hL : ij_LH B ls nL L) (h : ij_lda L st i = some (L', st')) : L' = L ∧ ((∃ x : Nat, ls[i]? = some (.val (.ref (ij_ad B x))) ∧ ¬ x = 1999999 ∧ st' = .ref x :: st) ∨ (ls[i]? = some (.val .null) ∧ st' = .null :: st)) := by
  unfold ij_lda at h
  split at h
  · next x hx =>
    split at h
    · cases h
    · next hne =>
      cases h
      refine ⟨rfl, Or.inl ⟨x, ?_, hne, rfl⟩⟩
      have := hL.at hx
      rwa [ij_cv_ref B hne] at this
  · next hx => cases h; exact ⟨rfl, Or.inr ⟨hL.at hx, rfl⟩⟩
  · cases h
/-- loads, stores, constants -/
theorem ij_sL_ok (hB : B.2.2.category = 1) (hx : p.tables.exec = Jvm.exec) (hb : c.code = cc) {i : Instr} (hd : decode cc pc = .ok (i, ij_len i)) {nL : Nat} {L L' : ij_L} {st st' : List Value} (hL : ij_LH B ls nL L) (h : ij_sL i L st = some (L', st'))
    (k : ∀ ls' : Array Slot, ij_LH B ls' nL L' → W p l e R s m args below meth c H locs cells slots Q (F0 m (pc + ij_len i) ls' (st'.map (ij_cv B)))) : W p l e R s m args below meth c H locs cells slots Q (F0 m pc ls (st.map (ij_cv B))) := by
  unfold ij_sL at h
  split at h
  · cases h; exact lv_iconst hx hb hd rfl (k _ hL)
  · cases h; exact lv_bipush hx hb hd rfl (k _ hL)
  · cases h; exact lv_sipush hx hb hd rfl (k _ hL)
  · cases h; exact lv_lconst hx hb hd rfl (k _ hL)
  · cases h; exact lv_null hx hb hd (k _ hL)
  · obtain ⟨x, h1, rfl, rfl⟩ := ij_ldi_ok hL h; exact lv_iload hx hb hd h1 (k _ hL)
  · obtain ⟨x, h1, rfl, rfl⟩ := ij_ldi_ok hL h; exact lv_iload_n hx hb hd rfl h1 (k _ hL)
  · obtain ⟨x, h1, rfl, rfl⟩ := ij_ldl_ok hL h; exact lv_lload hx hb hd h1 (k _ hL)
  · obtain ⟨x, h1, rfl, rfl⟩ := ij_ldl_ok hL h; exact lv_lload_n hx hb hd rfl h1 (k _ hL)
  · obtain ⟨rfl, ⟨x, h1, h2, rfl⟩ | ⟨h1, rfl⟩⟩ := ij_lda_ok hL h
    · refine lv_aload hx hb hd h1 ?_
      have := k _ hL
      rwa [List.map_cons, ij_cv_ref B h2] at this
    · exact lv_aloadN hx hb hd h1 (k _ hL)
  · obtain ⟨rfl, ⟨x, h1, h2, rfl⟩ | ⟨h1, rfl⟩⟩ := ij_lda_ok hL h
    · refine lv_aload_n hx hb hd rfl h1 ?_
      have := k _ hL
      rwa [List.map_cons, ij_cv_ref B h2] at this
    · exact lv_aload_nN hx hb hd rfl h1 (k _ hL)
  · unfold ij_sti at h
    split at h
    · obtain ⟨L1, hs, e1⟩ := Option.map_eq_some_iff.mp h
      cases e1
      exact lv_istore hx hb hd hL.2 (by rw [← hL.1]; exact ij_st1_lt hs) rfl (fun ls' h' => k ls' (ij_LH.st1 hB hL.1 hs h'))
    · cases h
  · unfold ij_sti at h
    split at h
    · obtain ⟨L1, hs, e1⟩ := Option.map_eq_some_iff.mp h
      cases e1
      exact lv_istore_n hx hb hd rfl hL.2 (by rw [← hL.1]; exact ij_st1_lt hs) rfl (fun ls' h' => k ls' (ij_LH.st1 hB hL.1 hs h'))
    · cases h
  · unfold ij_stl at h
    split at h
    · obtain ⟨L1, hs, e1⟩ := Option.map_eq_some_iff.mp h
      cases e1
      exact lv_lstore hx hb hd hL.2 (by rw [← hL.1]; exact ij_st2_lt hs) rfl (fun ls' h' => k ls' (ij_LH.st2 hB hL.1 hs h'))
    · cases h
  · unfold ij_stl at h
    split at h
    · obtain ⟨L1, hs, e1⟩ := Option.map_eq_some_iff.mp h
      cases e1
      exact lv_lstore_n hx hb hd rfl hL.2 (by rw [← hL.1]; exact ij_st2_lt hs) rfl (fun ls' h' => k ls' (ij_LH.st2 hB hL.1 hs h'))
    · cases h
  · unfold ij_sta at h
    split at h
    · split at h
      · cases h
      · next x r hne =>
        obtain ⟨L1, hs, e1⟩ := Option.map_eq_some_iff.mp h
        cases e1
        rw [List.map_cons, ij_cv_ref B hne]
        exact lv_astore hx hb hd hL.2 (by rw [← hL.1]; exact ij_st1_lt hs) rfl (fun ls' h' => k ls' (ij_LH.st1 hB hL.1 hs (by rw [ij_cv_ref B hne]; exact h')))
    · obtain ⟨L1, hs, e1⟩ := Option.map_eq_some_iff.mp h
      cases e1
      exact lv_astoreN hx hb hd hL.2 (by rw [← hL.1]; exact ij_st1_lt hs) rfl (fun ls' h' => k ls' (ij_LH.st1 hB hL.1 hs h'))
    · cases h
  · unfold ij_sta at h
    split at h
    · split at h
      · cases h
      · next x r hne =>
        obtain ⟨L1, hs, e1⟩ := Option.map_eq_some_iff.mp h
        cases e1
        rw [List.map_cons, ij_cv_ref B hne]
        exact lv_astore_n hx hb hd rfl hL.2 (by rw [← hL.1]; exact ij_st1_lt hs) rfl (fun ls' h' => k ls' (ij_LH.st1 hB hL.1 hs (by rw [ij_cv_ref B hne]; exact h')))
    · obtain ⟨L1, hs, e1⟩ := Option.map_eq_some_iff.mp h
      cases e1
      exact lv_astore_nN hx hb hd rfl hL.2 (by rw [← hL.1]; exact ij_st1_lt hs) rfl (fun ls' h' => k ls' (ij_LH.st1 hB hL.1 hs h'))
    · cases h
  · split at h
    · next x hxx =>
      obtain ⟨L1, hs, e1⟩ := Option.map_eq_some_iff.mp h
      cases e1
      obtain ⟨j, hj⟩ := List.getElem?_of_mem (ij_al_mem (B := B) (L := L) (q := (_, .int x)) |>.mpr ⟨.int x, hxx, rfl⟩)
      exact lv_iinc hx hb hd hL.2 hj rfl (by rw [← hL.1]; exact ij_st1_lt hs) rfl (fun ls' h' => k ls' (ij_LH.st1 hB hL.1 hs h'))
    · cases h
  · cases h
/-- jumps -/
theorem ij_bI_ok (hx : p.tables.exec = Jvm.exec) (hb : c.code = cc) {i : Instr} {len : Nat} (hd : decode cc pc = .ok (i, len)) (hlen : len = ij_len i ∨ ∃ d lo hi os, i = .tableswitch d lo hi os) (hj : ij_jok pc i = true) {st st' : List Value} {pc' : Nat} (h : ij_bI i pc st = some (pc', st'))
    (k : W p l e R s m args below meth c H locs cells slots Q (F0 m pc' ls (st'.map (ij_cv B)))) : W p l e R s m args below meth c H locs cells slots Q (F0 m pc ls (st.map (ij_cv B))) := by
  unfold ij_bI at h
  split at h
  · rcases hlen with rfl | ⟨_, _, _, _, hh⟩
    · cases h
      exact lv_goto hx hb hd (ij_tg_ok (of_decide_eq_true hj)) k
    · cases hh
  · rcases hlen with rfl | ⟨_, _, _, _, hh⟩
    · have ht := ij_tg_ok (pc := pc) (of_decide_eq_true hj)
      split at h
      · split at h
        · cases h
          exact lv_if_eq hx hb hd ht (fun q => by rwa [if_pos q] at k) (fun q => by rwa [if_neg q] at k)
        · cases h
          exact lv_if_ne hx hb hd ht (fun q => by rwa [if_neg q] at k) (fun q => by rwa [if_pos q] at k)
        · cases h
          exact lv_if_lt hx hb hd ht (fun q => by rwa [if_pos q] at k) (fun q => by rwa [if_neg q] at k)
        · cases h
          exact lv_if_ge hx hb hd ht (fun q => by rwa [if_pos q] at k) (fun q => by rwa [if_neg q] at k)
        · cases h
          exact lv_if_gt hx hb hd ht (fun q => by rwa [if_pos q] at k) (fun q => by rwa [if_neg q] at k)
        · cases h
          exact lv_if_le hx hb hd ht (fun q => by rwa [if_pos q] at k) (fun q => by rwa [if_neg q] at k)
      · cases h
    · cases hh
  · rcases hlen with rfl | ⟨_, _, _, _, hh⟩
    · have ht := ij_tg_ok (pc := pc) (of_decide_eq_true hj)
      split at h
      · split at h
        · cases h
          exact lv_icmp_eq hx hb hd ht (fun q => by rwa [if_pos q] at k) (fun q => by rwa [if_neg q] at k)
        · cases h
          exact lv_icmp_ne hx hb hd ht (fun q => by rwa [if_neg q] at k) (fun q => by rwa [if_pos q] at k)
        · cases h
          exact lv_icmp_lt hx hb hd ht (fun q => by rwa [if_pos q] at k) (fun q => by rwa [if_neg q] at k)
        · cases h
          exact lv_icmp_ge hx hb hd ht (fun q => by rwa [if_pos q] at k) (fun q => by rwa [if_neg q] at k)
        · cases h
          exact lv_icmp_gt hx hb hd ht (fun q => by rwa [if_pos q] at k) (fun q => by rwa [if_neg q] at k)
        · cases h
          exact lv_icmp_le hx hb hd ht (fun q => by rwa [if_pos q] at k) (fun q => by rwa [if_neg q] at k)
      · cases h
    · cases hh
  · rcases hlen with rfl | ⟨_, _, _, _, hh⟩
    · have ht := ij_tg_ok (pc := pc) (of_decide_eq_true hj)
      split at h
      · split at h
        · cases h
        · next x r hne =>
          cases h
          rw [List.map_cons, ij_cv_ref B hne]
          exact lv_ifnull hx hb hd k
      · cases h
        exact lv_ifnullN hx hb hd ht k
      · cases h
    · cases hh
  · rcases hlen with rfl | ⟨_, _, _, _, hh⟩
    · have ht := ij_tg_ok (pc := pc) (of_decide_eq_true hj)
      split at h
      · split at h
        · cases h
        · next x r hne =>
          cases h
          rw [List.map_cons, ij_cv_ref B hne]
          exact lv_ifnonnull hx hb hd ht k
      · cases h
        exact lv_ifnonnullN hx hb hd k
      · cases h
    · cases hh
  · next d lo hi os =>
    have hj1 := Bool.and_eq_true_iff.mp hj
    split at h
    · next x r =>
      split at h
      · next hc =>
        cases h
        exact lv_tableOut hx hb hd hc (ij_tg_ok (of_decide_eq_true hj1.1)) k
      · next hc =>
        split at h
        · next o ho =>
          cases h
          have hm : o ∈ os.toList := by
            have := Array.mem_of_getElem? ho
            exact Array.mem_toList_iff.mpr this
          exact lv_tableIn hx hb hd (fun q => hc (Or.inl q)) (fun q => hc (Or.inr q)) ho (ij_tg_ok (of_decide_eq_true (List.all_eq_true.mp hj1.2 o hm))) k
        · cases h
    · cases h
  · cases h
end IJ
end
section
/-! The heap of the small machine in the machine's: the world, and what stands beside it. -/
def ij_A (B : ij_B) : Nat → Prop := fun q => B.1 ≤ q
def ij_tys (aC : Nat → ClassId) : List (ClassId × FieldType) := [(aC 0, .int), (aC 1, .long), (aC 2, .byte), (aC 3, .boolean), (aC 4, .object "ScaleForge$Tray"), (aC 5, .object "ScaleForge$Scale"), (aC 6, .object "ScaleForge$Studies")]
def ij_fc (B : ij_B) (t : Nat) (m : ij_M) (j k : Nat) : Value := match t with
  | 1 => .long (m.2.1 j k)
  | 2 => va_rf ((m.2.2 j k).map (ij_ad B))
  | _ => .int (m.1 j k)
def ij_ar (B : ij_B) (kd : Nat) (m : ij_M) (j : Nat) : (Nat → Int32) ⊕ (Nat → Int64) ⊕ (Nat → UInt32) ⊕ (Nat → UInt64) ⊕ (Nat → Option Nat) :=
  if kd = 101 then .inr (.inl (m.2.1 j)) else if kd < 104 then .inl (m.1 j) else .inr (.inr (.inr (.inr (fun i => (m.2.2 j i).map (ij_ad B)))))
def ij_cell (B : ij_B) (tt : Nat → Nat → Nat) (aC : Nat → ClassId) (m : ij_M) (j : Nat) (sh : Nat × Nat) : va_E :=
  if sh.1 < 100 then .inr (sh.1, (List.range sh.2).map (fun k => ij_fc B (tt sh.1 k) m j k)) else .inl (aC (sh.1 - 100), sh.2, ij_ar B sh.1 m j)
def ij_ws (B : ij_B) (tt : Nat → Nat → Nat) (aC : Nat → ClassId) (h : ij_H) : va_W := h.1.mapIdx (fun j sh => (B.1 + j, ij_cell B tt aC h.2 j sh))
theorem ij_ws_get (B : ij_B) (tt : Nat → Nat → Nat) (aC : Nat → ClassId) (h : ij_H) (j : Nat) : (ij_ws B tt aC h)[j]? = (h.1[j]?).map (fun sh => (B.1 + j, ij_cell B tt aC h.2 j sh)) := by
  unfold ij_ws
  rw [List.getElem?_mapIdx]
theorem ij_ws_at {B : ij_B} {tt : Nat → Nat → Nat} {aC : Nat → ClassId} {h : ij_H} {j : Nat} {sh : Nat × Nat} (hj : h.1[j]? = some sh) : (ij_ws B tt aC h)[j]? = some (B.1 + j, ij_cell B tt aC h.2 j sh) := by
  rw [ij_ws_get, hj]; rfl
theorem ij_ws_D (B : ij_B) (tt : Nat → Nat → Nat) (aC : Nat → ClassId) (h : ij_H) : va_D (ij_A B) (ij_ws B tt aC h) := by
  refine ⟨fun i j p q hp hq e => ?_, fun k q hq => ?_⟩
  · rw [ij_ws_get] at hp hq
    obtain ⟨a, -, ha⟩ := Option.map_eq_some_iff.mp hp
    obtain ⟨b, -, hb⟩ := Option.map_eq_some_iff.mp hq
    rw [← ha, ← hb] at e
    dsimp only at e
    omega
  · rw [ij_ws_get] at hq
    obtain ⟨a, -, ha⟩ := Option.map_eq_some_iff.mp hq
    rw [← ha]
    show B.1 ≤ B.1 + k
    omega
/-- a cell is written anew: the world behind it -/
theorem ij_ws_set {B : ij_B} {tt : Nat → Nat → Nat} {aC : Nat → ClassId} {h : ij_H} {m' : ij_M} {j : Nat} {sh : Nat × Nat} {x : va_E} (hj : h.1[j]? = some sh) (hx : ij_cell B tt aC m' j sh = x)
    (h1 : ∀ i, i ≠ j → m'.1 i = h.2.1 i) (h2 : ∀ i, i ≠ j → m'.2.1 i = h.2.2.1 i) (h3 : ∀ i, i ≠ j → m'.2.2 i = h.2.2.2 i) : (ij_ws B tt aC h).set j (B.1 + j, x) = ij_ws B tt aC (h.1, m') := by
  apply List.ext_getElem?
  intro i
  rw [List.getElem?_set, ij_ws_get, ij_ws_get]
  by_cases hi : j = i
  · subst hi
    have hlt : j < (ij_ws B tt aC h).length := (List.getElem?_eq_some_iff.mp (ij_ws_at hj)).1
    rw [if_pos rfl, if_pos hlt]
    show _ = (h.1[j]?).map _
    rw [hj]
    show some (B.1 + j, x) = some (B.1 + j, ij_cell B tt aC m' j sh)
    rw [hx]
  · rw [if_neg hi]
    have hi : i ≠ j := fun q => hi q.symm
    have e : ∀ sh, ij_cell B tt aC h.2 i sh = ij_cell B tt aC m' i sh := by
      intro sh
      unfold ij_cell ij_ar ij_fc
      rw [h1 i hi, h2 i hi, h3 i hi]
    simp only [e]
theorem ij_ui_ne {f : Nat → Nat → Int32} {j k : Nat} {v : Int32} {i : Nat} (h : i ≠ j) : ij_ui f j k v i = f i := if_neg h
theorem ij_ui_eq {f : Nat → Nat → Int32} {j k : Nat} {v : Int32} : ij_ui f j k v j = upd (f j) k v := if_pos rfl
theorem ij_ul_ne {f : Nat → Nat → Int64} {j k : Nat} {v : Int64} {i : Nat} (h : i ≠ j) : ij_ul f j k v i = f i := if_neg h
theorem ij_ul_eq {f : Nat → Nat → Int64} {j k : Nat} {v : Int64} : ij_ul f j k v j = vp_updL (f j) k v := if_pos rfl
theorem ij_ur_ne {f : Nat → Nat → Option Nat} {j k : Nat} {v : Option Nat} {i : Nat} (h : i ≠ j) : ij_ur f j k v i = f i := if_neg h
theorem ij_ur_eq {f : Nat → Nat → Option Nat} {j k : Nat} {v : Option Nat} : ij_ur f j k v j = va_up (f j) k v := if_pos rfl
theorem ij_row_ne {α : Type} {f : Nat → Nat → α} {j : Nat} {r : Nat → α} {i : Nat} (h : i ≠ j) : ij_row f j r i = f i := if_neg h
theorem ij_row_eq {α : Type} {f : Nat → Nat → α} {j : Nat} {r : Nat → α} : ij_row f j r j = r := if_pos rfl
theorem ij_rv_ok (B : ij_B) {o : Option Nat} {v : Value} (h : ij_rv o = some v) : ij_cv B v = va_rf (o.map (ij_ad B)) := by
  unfold ij_rv at h
  split at h
  · cases h; rfl
  · split at h
    · next hx => cases h; rw [ij_cv_ref B (by omega)]; rfl
    · cases h
theorem ij_fv_ok (B : ij_B) {t : Nat} {m : ij_M} {j k : Nat} {v : Value} (h : ij_fv t m j k = some v) : ij_cv B v = ij_fc B t m j k := by
  unfold ij_fv at h
  unfold ij_fc
  split at h
  · cases h; rfl
  · exact ij_rv_ok B h
  · next h1 h2 =>
    cases h
    split
    · exact absurd rfl h1
    · exact absurd rfl h2
    · rfl
/-! what stands beside the world -/
abbrev ij_N1 : Type := List (String × Nat × String × String × String × String)
abbrev ij_N2 : Type := List (String × Nat × MethodName × String)
abbrev ij_S1 : Type := List (String × Nat × String × Nat)
def ij_sn (k : Nat) : String := match k with
  | 0 => "WITHOUT"
  | 1 => "LEAST"
  | _ => "MOST"
def ij_Ev (B : ij_B) (D : va_G) (cl : List vw_C) (aC : Nat → ClassId) (n1 : ij_N1) (n2 : ij_N2) (sr : ij_S1) (xt : ij_X) (U : State) : Prop :=
  va_K D cl (ij_tys aC) U ∧ (∀ q ∈ n1, va_Nw (.fieldLinkNest q.1 q.2.1 q.2.2.1 q.2.2.2.1 q.2.2.2.2.1 q.2.2.2.2.2) U) ∧ (∀ q ∈ n2, va_Nw (.methodLinkNest q.1 q.2.1 q.2.2.1 q.2.2.2) U)
  ∧ (va_AO "ScaleForge$Tray" U ∧ va_AO "ScaleForge$Scale" U ∧ va_AO "ScaleForge$Studies" U)
  ∧ (∀ k, k < 3 → va_Z "ScaleForge" (ij_sn k) "[I" (.ref (B.2.1 (1000001 + k))) (ij_A B) U U.heap)
  ∧ va_Z "java/lang/String" "COMPACT_STRINGS" "Z" (.int 1) (ij_A B) U U.heap
  ∧ va_Z "jdk/internal/util/Preconditions" "SIOOBE_FORMATTER" "Ljava/util/function/BiFunction;" B.2.2 (ij_A B) U U.heap
  ∧ (∀ k kd n f, xt k = some (kd, n, f) → (¬ k < 1000000 ∧ ¬ k = 1999999) ∧ ∃ ty, va_T ty (B.2.1 k) n (fun j => .int (f j)) (ij_A B) U U.heap ∧ (kd = 100 → ty = .int) ∧ (kd = 102 → ty = .byte))
  ∧ (∀ i, i < 24 → va_O "java/lang/String" (B.2.1 (1000010 + i)) (ij_A B) U U.heap ∧ va_OF "java/lang/String" "coder" "B" (.int 0) (B.2.1 (1000010 + i)) (ij_A B) U U.heap ∧ va_OF "java/lang/String" "value" "[B" (.ref (B.2.1 (1000060 + i))) (B.2.1 (1000010 + i)) (ij_A B) U U.heap)
  ∧ ∀ q ∈ sr, vk_R q.1 q.2.1 q.2.2.1 (B.2.1 (1000010 + q.2.2.2)) U
theorem ij_Ev.move {B : ij_B} {D : va_G} {cl : List vw_C} {aC : Nat → ClassId} {n1 : ij_N1} {n2 : ij_N2} {sr : ij_S1} {xt : ij_X} {s U : State} (h : ij_Ev B D cl aC n1 n2 sr xt s) (hq : ∀ a : Nat, a < s.heap.size → ¬ ij_A B a → U.heap[a]? = s.heap[a]?) (hW : s.WarmedH U.vm) : ij_Ev B D cl aC n1 n2 sr xt U := by
  obtain ⟨e1, e2, e3, ⟨e4, e5, e6⟩, e7, e8, e9, e10, e11, e12⟩ := h
  have ha := hW.alike
  refine ⟨va_K.moved ha e1, fun q hm => va_Nw.warmF hW (e2 q hm), fun q hm => va_Nw.warmM hW (e3 q hm), ⟨va_AO.moved ha e4, va_AO.moved ha e5, va_AO.moved ha e6⟩, fun k hk => (va_Z.moved ha (e7 k hk)).kept hq, (va_Z.moved ha e8).kept hq, (va_Z.moved ha e9).kept hq, fun k kd n f hx => ?_, fun i hi => ?_, fun q hm => vk_R.warm hW (e12 q hm)⟩
  · obtain ⟨g1, ty, g2, g3⟩ := e10 k kd n f hx
    exact ⟨g1, ty, (va_T.moved ha g2).kept hq, g3⟩
  · obtain ⟨g1, g2, g3⟩ := e11 i hi
    exact ⟨(va_O.moved ha g1).kept hq, (va_OF.moved ha g2).kept hq, (va_OF.moved ha g3).kept hq⟩
/-! what a row of a method must hold of the tables, for reads -/
abbrev ij_Cx : Type := (Nat → String) × (Nat → u_T) × (Nat → Nat)
def ij_okR (X : ij_Cx) (gw : List Cond) (n1 : ij_N1) (sr : ij_S1) (own : String) (R : Room) (i : Instr) (a b : Nat) : Prop := match i with
  | .getfield idx => (a < 12 ∧ b < X.2.2 a ∧ Cond.fieldLink own idx (X.2.1 a b).1 (X.2.1 a b).2.1 (X.2.1 a b).2.2.1 ∈ gw) ∨ (a = 114 ∧ b = 0 ∧ Cond.fieldLink own idx "java/lang/String" "value" "[B" ∈ gw) ∨ (a = 114 ∧ b = 1 ∧ Cond.fieldLink own idx "java/lang/String" "coder" "B" ∈ gw)
  | .getstatic idx => (a < 3 ∧ (Cond.fieldLink own idx "ScaleForge" (ij_sn a) "[I" ∈ gw ∨ ∃ hst, (own, idx, "ScaleForge", ij_sn a, "[I", hst) ∈ n1)) ∨ (a = 3 ∧ Cond.fieldLink own idx "java/lang/String" "COMPACT_STRINGS" "Z" ∈ gw) ∨ (a = 4 ∧ Cond.fieldLink own idx "jdk/internal/util/Preconditions" "SIOOBE_FORMATTER" "Ljava/util/function/BiFunction;" ∈ gw)
  | .ldc idx => (a = 0 ∧ Cond.constant own idx (Int32.ofNat b) ∈ gw) ∨ (a = 1 ∧ ∃ tx, (own, idx, tx, b) ∈ sr)
  | .ldc_w idx => Cond.constant own idx (Int32.ofNat b) ∈ gw
  | .ldc2_w idx => Cond.constantLong own idx (Int64.ofNat b) ∈ gw
  | .invokespecial idx => a = 999999 → (Cond.methodLink own idx Lib.objectInit ∈ gw ∧ Cond.instanceMethod Lib.objectInit ∈ gw ∧ Cond.code Lib.objectInit ⟨#[0xb1]⟩ 1 none ∈ gw ∧ 1 ≤ R.frames ∧ 20 ≤ R.locals)
  | _ => True
section IJ
variable {p : Program} {l : Launch} {e : Env} {R : Room} {s : State} {m : MethodId} {args : Array Value} {below : List Frame} {meth : Method} {c : Code} {H : Heap} {locs : List Loc} {cells slots : Nat} {Q : State → Prop}
variable {cc : ByteArray} {pc : Nat} {ls : Array Slot} {B : ij_B} {D : va_G} {cl : List vw_C} {aC : Nat → ClassId} {n1 : ij_N1} {n2 : ij_N2} {sr : ij_S1} {xt : ij_X} {X : ij_Cx} {gw : List Cond} {own : String} {tt : Nat → Nat → Nat}
theorem ij_in {i : Int32} {n : Nat} (h : ¬ (i < 0 ∨ n ≤ i.toNatClampNeg)) : vp_in i n := h
set_option maxHeartbeats 8000000 in
theorem ij_hR_ok (hB : B.2.2.category = 1) (hcl : ∀ ci, ci < 12 → cl[ci]? = some (X.1 ci, X.2.1 ci, X.2.2 ci)) (hcw : ∀ ci, ci < 12 → ∀ w ∈ u_ws (X.1 ci) (X.2.1 ci) (X.2.2 ci), w ∈ gw)
    (hx : p.tables.exec = Jvm.exec) (hb : c.code = cc) {i : Instr} (hd : decode cc pc = .ok (i, ij_len i)) (hown : s.vm.findClass own = some m.cls) (hts : ∀ w ∈ gw, w.before args s = true) (hE : ij_Ev B D cl aC n1 n2 sr xt s) {h : ij_H} (hP : va_P D cl (ij_ws B tt aC h) H) (hS : va_S (ij_A B) s.heap H locs) (hml : ls.size = c.maxLocals)
    {a b : Nat} (hok : ij_okR X gw n1 sr own R i a b) {st st' : List Value} (hr : ij_hR tt xt i a b st h = some st')
    (k : W p l e R s m args below meth c H locs cells slots Q (F0 m (pc + ij_len i) ls (st'.map (ij_cv B)))) : W p l e R s m args below meth c H locs cells slots Q (F0 m pc ls (st.map (ij_cv B))) := by
  obtain ⟨hK, e2, e3, -, e7, e8, e9, e10, e11, e12⟩ := hE
  unfold ij_hR at hr
  split at hr
  · -- getfield
    split at hr
    · next j r =>
      split at hr
      · next hj =>
        split at hr
        · next kd n hsh =>
          split at hr
          · next hc =>
            obtain ⟨rfl, h100, hbn⟩ := hc
            obtain ⟨v, hv, rfl⟩ := Option.map_eq_some_iff.mp hr
            rcases hok with ⟨g1, g2, g3⟩ | ⟨g1, -⟩ | ⟨g1, -⟩
            · rw [List.map_cons, ij_cv_cell B hj]
              rw [List.map_cons, ij_fv_ok B hv] at k
              have hw := ij_ws_at (B := B) (tt := tt) (aC := aC) hsh
              rw [show ij_cell B tt aC h.2 j (kd, n) = .inr (kd, (List.range n).map (fun k => ij_fc B (tt kd k) h.2 j k)) from if_pos h100] at hw
              exact va_get hx hb hts (hcw kd g1) hown hK hP j hw (hcl kd g1) b g2 (hts _ g3) (fun _ q => q) (by rw [List.getElem?_map, List.getElem?_range hbn]; rfl) hd k
            · omega
            · omega
          · cases hr
        · cases hr
      · split at hr
        · next hj hc =>
          obtain ⟨j, rfl⟩ : ∃ j' : Nat, j' = j := ⟨_, rfl⟩
          obtain ⟨c1, c2, rfl⟩ := hc
          have c1 : (1000010 : Nat) ≤ j := c1
          have c2 : j < (1000034 : Nat) := c2
          have hj2 : j = 1000010 + (j - 1000010) := by omega
          obtain ⟨f1, f2, f3⟩ := e11 (j - 1000010) (by omega)
          rw [← hj2] at f2 f3
          rw [List.map_cons, ij_cv_out B hj (by omega)]
          split at hr
          · cases hr
            rcases hok with ⟨g1, -⟩ | ⟨-, -, g3⟩ | ⟨-, g2, -⟩
            · omega
            · rw [List.map_cons, ij_cv_out B (by omega) (by omega)] at k
              refine vk_getf hx hb f3 hS hown (hts _ g3) (fun _ q => q) hd ?_
              rw [show 1000060 + (j - 1000010) = j + 50 by omega]
              exact k
            · cases g2
          · cases hr
            rcases hok with ⟨g1, -⟩ | ⟨-, g2, -⟩ | ⟨-, -, g3⟩
            · omega
            · cases g2
            · exact vk_getf hx hb f2 hS hown (hts _ g3) (fun _ q => q) hd k
          · cases hr
        · cases hr
    · cases hr
  · -- iaload
    split at hr
    · next i j r =>
      split at hr
      · next hj =>
        split at hr
        · next n hsh =>
          split at hr
          · cases hr
          · next hin =>
            cases hr
            rw [List.map_cons, List.map_cons, ij_cv_cell B hj]
            exact va_iald hx hb hK hP j 0 (cA := aC 0) (n := n) (f := h.2.1 j) (ij_ws_at hsh) rfl hin hd k
        · cases hr
      · next hj =>
        split at hr
        · next n f hxt =>
          split at hr
          · cases hr
          · next hin =>
            cases hr
            obtain ⟨⟨g1, g2⟩, ty, g3, g4, -⟩ := e10 _ _ _ _ hxt
            cases g4 rfl
            rw [List.map_cons, List.map_cons, ij_cv_out B g1 g2]
            exact va_ti hx hb g3 hS hin rfl hd k
        · cases hr
    · cases hr
  · -- baload
    split at hr
    · next i j r =>
      split at hr
      · next hj =>
        split at hr
        · next n hsh =>
          split at hr
          · cases hr
          · next hin =>
            cases hr
            rw [List.map_cons, List.map_cons, ij_cv_cell B hj]
            exact va_bald hx hb hK hP j 2 (cA := aC 2) (n := n) (f := h.2.1 j) (ij_ws_at hsh) rfl hin hd k
        · next n hsh =>
          split at hr
          · cases hr
          · next hin =>
            cases hr
            rw [List.map_cons, List.map_cons, ij_cv_cell B hj]
            exact va_zald hx hb hK hP j 3 (cA := aC 3) (n := n) (f := h.2.1 j) (ij_ws_at hsh) rfl hin hd k
        · cases hr
      · next hj =>
        split at hr
        · next n f hxt =>
          split at hr
          · cases hr
          · next hin =>
            cases hr
            obtain ⟨⟨g1, g2⟩, ty, g3, -, g4⟩ := e10 _ _ _ _ hxt
            cases g4 rfl
            rw [List.map_cons, List.map_cons, ij_cv_out B g1 g2]
            exact va_tb hx hb g3 hS hin rfl hd k
        · cases hr
    · cases hr
  · -- laload
    split at hr
    · next i j r =>
      split at hr
      · next hj =>
        split at hr
        · next n hsh =>
          split at hr
          · cases hr
          · next hin =>
            cases hr
            rw [List.map_cons, List.map_cons, ij_cv_cell B hj]
            exact va_lald hx hb hK hP j 1 (cA := aC 1) (n := n) (f := h.2.2.1 j) (ij_ws_at hsh) rfl hin hd k
        · cases hr
      · cases hr
    · cases hr
  · -- aaload
    split at hr
    · next i j r =>
      split at hr
      · next hj =>
        split at hr
        · next kd n hsh =>
          split at hr
          · cases hr
          · next hin =>
            obtain ⟨v, hv, rfl⟩ := Option.map_eq_some_iff.mp hr
            rw [List.map_cons, List.map_cons, ij_cv_cell B hj]
            rw [List.map_cons, ij_rv_ok B hv] at k
            have hin2 : vp_in i n := fun q => hin (Or.inr (Or.inr q))
            have h3 : kd = 104 ∨ kd = 105 ∨ kd = 106 := by omega
            rcases h3 with rfl | rfl | rfl
            · exact va_aldq hx hb hK hP j 4 (cA := aC 4) (n := n) (f := fun i => (h.2.2.2 j i).map (ij_ad B)) (ij_ws_at hsh) rfl hin2 hd k
            · exact va_aldq hx hb hK hP j 5 (cA := aC 5) (n := n) (f := fun i => (h.2.2.2 j i).map (ij_ad B)) (ij_ws_at hsh) rfl hin2 hd k
            · exact va_aldq hx hb hK hP j 6 (cA := aC 6) (n := n) (f := fun i => (h.2.2.2 j i).map (ij_ad B)) (ij_ws_at hsh) rfl hin2 hd k
        · cases hr
      · cases hr
    · cases hr
  · -- arraylength
    split at hr
    · next j r =>
      split at hr
      · next hj =>
        split at hr
        · next kd n hsh =>
          split at hr
          · cases hr
          · next hin =>
            cases hr
            rw [List.map_cons, ij_cv_cell B hj]
            have hw := ij_ws_at (B := B) (tt := tt) (aC := aC) hsh
            rw [show ij_cell B tt aC h.2 j (kd, n) = .inl (aC (kd - 100), n, ij_ar B kd h.2 j) from if_neg (by show ¬ kd < 100; omega)] at hw
            have h3 : kd = 100 ∨ kd = 101 ∨ kd = 102 ∨ kd = 103 ∨ kd = 104 ∨ kd = 105 ∨ kd = 106 := by omega
            rcases h3 with rfl | rfl | rfl | rfl | rfl | rfl | rfl
            · exact va_alen hx hb hK hP j 0 hw rfl rfl hd k
            · exact va_alen hx hb hK hP j 1 hw rfl rfl hd k
            · exact va_alen hx hb hK hP j 2 hw rfl rfl hd k
            · exact va_alen hx hb hK hP j 3 hw rfl rfl hd k
            · exact va_alen hx hb hK hP j 4 hw rfl rfl hd k
            · exact va_alen hx hb hK hP j 5 hw rfl rfl hd k
            · exact va_alen hx hb hK hP j 6 hw rfl rfl hd k
        · cases hr
      · next hj =>
        split at hr
        · next kd n f hxt =>
          cases hr
          obtain ⟨⟨g1, g2⟩, ty, g3, -⟩ := e10 _ _ _ _ hxt
          rw [List.map_cons, ij_cv_out B g1 g2]
          exact va_tlen hx hb g3 hS rfl hd k
        · cases hr
    · cases hr
  · -- getstatic
    split at hr
    · cases hr
      rw [List.map_cons, ij_cv_out B (by omega) (by omega)] at k
      rcases hok with ⟨-, g | ⟨hst, g⟩⟩ | ⟨g1, -⟩ | ⟨g1, -⟩
      · exact va_gets hx hb (e7 0 (by omega)) hS hown (hts _ g) (fun _ q => q) hd k
      · exact va_getsN hx hb (e7 0 (by omega)) hS hown (va_Nw.use rfl (e2 _ g)) (fun _ q => q) hd k
      · cases g1
      · cases g1
    · cases hr
      rw [List.map_cons, ij_cv_out B (by omega) (by omega)] at k
      rcases hok with ⟨-, g | ⟨hst, g⟩⟩ | ⟨g1, -⟩ | ⟨g1, -⟩
      · exact va_gets hx hb (e7 1 (by omega)) hS hown (hts _ g) (fun _ q => q) hd k
      · exact va_getsN hx hb (e7 1 (by omega)) hS hown (va_Nw.use rfl (e2 _ g)) (fun _ q => q) hd k
      · cases g1
      · cases g1
    · cases hr
      rw [List.map_cons, ij_cv_out B (by omega) (by omega)] at k
      rcases hok with ⟨-, g | ⟨hst, g⟩⟩ | ⟨g1, -⟩ | ⟨g1, -⟩
      · exact va_gets hx hb (e7 2 (by omega)) hS hown (hts _ g) (fun _ q => q) hd k
      · exact va_getsN hx hb (e7 2 (by omega)) hS hown (va_Nw.use rfl (e2 _ g)) (fun _ q => q) hd k
      · cases g1
      · cases g1
    · cases hr
      rcases hok with ⟨g1, -⟩ | ⟨-, g⟩ | ⟨g1, -⟩
      · omega
      · exact va_gets hx hb e8 hS hown (hts _ g) (fun _ q => q) hd k
      · cases g1
    · cases hr
      rcases hok with ⟨g1, -⟩ | ⟨g1, -⟩ | ⟨-, g⟩
      · omega
      · cases g1
      · exact va_gets hx hb e9 hS hown (hts _ g) (fun _ q => q) hd k
    · cases hr
  · -- ldc
    split at hr
    · cases hr
      rcases hok with ⟨-, g⟩ | ⟨g1, -⟩
      · exact lv_ldc hx hb hown (hts _ g) hd k
      · cases g1
    · split at hr
      · next hb24 =>
        cases hr
        rcases hok with ⟨g1, -⟩ | ⟨-, tx, g⟩
        · cases g1
        · rw [List.map_cons, ij_cv_out B (by omega) (by omega)] at k
          exact va_ldcS hx hb hown (e12 _ g) hd k
      · cases hr
    · cases hr
  · -- ldc_w
    split at hr
    · cases hr
      exact lv_ldcw hx hb hown (hts _ hok) hd k
    · cases hr
  · -- ldc2_w
    cases hr
    exact lv_ldc2 hx hb hown (hts _ hok) hd k
  · -- Object.<init>
    split at hr
    · next j r =>
      split at hr
      · next hj =>
        cases hr
        obtain ⟨g1, g2, g3, g4, g5⟩ := hok rfl
        rw [List.map_cons, ij_cv_cell B hj.1]
        refine W.objInit hx hb hown (hts _ g1) (hts _ g2) (hts _ g3) rfl hml rfl hd g4 ?_ k
        have := lv_room (m := m) (pc := pc) (ls := ls) (rest := .ref (B.1 + j) :: st'.map (ij_cv B)) (st := st'.map (ij_cv B)) (by rw [ij_cv_sum B hB]; exact hj.2)
        omega
      · cases hr
    · cases hr
  · cases hr
end IJ
end
section
/-! Writes of the small machine are writes of the machine. -/
def ij_sl (h : ij_H) : Nat := (h.1.map Prod.snd).sum
def ij_tk (t : FieldType) : Nat := match t with
  | .int => 0
  | .long => 1
  | .boolean => 3
  | .object _ => 2
  | .array _ => 2
  | _ => 9
def ij_okW (X : ij_Cx) (gw : List Cond) (own : String) (ini : Prop) (R : Room) (i : Instr) (a b : Nat) : Prop := match i with
  | .putfield idx => a < 12 ∧ b < X.2.2 a ∧ Cond.fieldLink own idx (X.2.1 a b).1 (X.2.1 a b).2.1 (X.2.1 a b).2.2.1 ∈ gw ∧ ((X.2.1 a b).2.2.2 = false ∨ ((X.2.1 a b).2.2.2 = true ∧ ini ∧ (X.2.1 a b).1 = own))
  | .newarray t => Cond.arrayClass (newarray.typeOf t) ∈ gw
  | .anewarray idx => Cond.classLink own idx (X.1 (ij_ecl a)) ∈ gw
  | .new idx => a < 12 ∧ b = X.2.2 a ∧ Cond.classLink own idx (X.1 a) ∈ gw ∧ Cond.instantiable (X.1 a) (X.2.2 a) ∈ gw ∧ Cond.initialized (X.1 a) ∈ gw
  | .invokestatic idx => a = 999998 → (Cond.methodLink own idx arraycopyName ∈ gw ∧ Cond.native arraycopyName ∈ gw ∧ Cond.static arraycopyName ∈ gw ∧ Cond.initialized "java/lang/System" ∈ gw ∧ 1 ≤ R.frames ∧ 26 ≤ R.locals)
  | _ => True
section IJ
variable {p : Program} {l : Launch} {e : Env} {R : Room} {s : State} {m : MethodId} {args : Array Value} {below : List Frame} {meth : Method} {c : Code} {H : Heap} {locs : List Loc} {cells slots : Nat} {Q : State → Prop}
variable {cc : ByteArray} {pc : Nat} {ls : Array Slot} {B : ij_B} {D : va_G} {cl : List vw_C} {aC : Nat → ClassId} {n1 : ij_N1} {n2 : ij_N2} {sr : ij_S1} {xt : ij_X} {X : ij_Cx} {gw : List Cond} {own : String} {tt : Nat → Nat → Nat}
theorem ij_W_size {g : JFrame} (k : H.size ≤ s.heap.size + cells → W p l e R s m args below meth c H locs cells slots Q g) : W p l e R s m args below meth c H locs cells slots Q g := fun T hT X => k (by rw [← hT]; exact X.heapSize) T hT X
/-- a copy out of an int array that nobody writes -/
theorem ij_copyt {rest : List Value} {ws : va_W} {tys : List (ClassId × FieldType)} {A : Nat → Prop} {a : Nat} (hexec : p.tables.exec = Jvm.exec) (hb : c.code = cc) (hml : c.maxLocals = ls.size) {index : Nat} (hown : s.vm.findClass own = some m.cls) (hlink : (Cond.methodLink own index arraycopyName).before args s = true) (hnat : (Cond.native arraycopyName).before args s = true) (hstat : (Cond.static arraycopyName).before args s = true) (hini : (Cond.initialized "java/lang/System").before args s = true)
    (hK : va_K D cl tys s) (hP : va_P D cl ws H) (hD : va_D A ws) (hS : va_S A s.heap H locs) {b0 n0 : Nat} {f : Nat → Int32} (hX : va_T .int b0 n0 (fun j => .int (f j)) A s s.heap) (q1 t1 : Nat) {c1 : ClassId} {n1 : Nat} {g : Nat → Int32} (ha1 : ws[q1]? = some (a, .inl (c1, n1, .inl g))) (ht1 : tys[t1]? = some (c1, .int))
    {sp dp n : Int32} (h1 : ¬ sp < 0) (h2 : ¬ dp < 0) (h3 : ¬ n < 0) (h4 : sp.toNatClampNeg + n.toNatClampNeg ≤ n0) (h5 : dp.toNatClampNeg + n.toNatClampNeg ≤ n1)
    (hframes : 1 ≤ R.frames) (hlocals : (rest.map fun v => v.category).sum + (nativeFrameWords "java/lang/System" "arraycopy" 5 + 11) ≤ R.locals) (hdg : decode cc pc = .ok (.invokestatic index, 3))
    (kk : ∀ (H1 : Heap) (locs1 : List Loc), va_P D cl (ws.set q1 (a, .inl (c1, n1, .inl (va_cpy f g sp.toNatClampNeg dp.toNatClampNeg n.toNatClampNeg)))) H1 → va_S A s.heap H1 locs1 → W p l e R s m args below meth c H1 locs1 cells slots Q (F0 m (pc + 3) ls rest)) : W p l e R s m args below meth c H locs cells slots Q (F0 m pc ls (.int n :: .int dp :: .ref a :: .int sp :: .ref b0 :: rest)) := by
  have nn : ∀ z : Int32, ¬ z < 0 → z.toInt = (z.toNatClampNeg : Int) := by
    intro z hz
    have hz0 : (0 : Int) ≤ z.toInt := by simpa using Int32.le_iff_toInt_le.mp (Int32.not_lt.mp hz)
    show z.toInt = ((z.toInt.toNat : Nat) : Int)
    omega
  intro T hT Y
  obtain ⟨scr, hs1, hs2, hs3, hs4, -, hs5, hs7⟩ := hX
  have hc0 : H[b0]? = some scr := by rw [hS.2.1 b0 (Array.getElem?_eq_some_iff.mp hs1).1 hs7]; exact hs1
  have hc1 : H[a]? = some (vp_cell c1 (n1, .inl g)) := hP q1 _ ha1
  obtain ⟨hs6, k0, hk0, cm0, hkk0⟩ := hs2
  obtain ⟨-, k1, hk1, cm1, hkk1⟩ := (hK.2 t1 _ ht1).1 n1 (fun j => .int (g j))
  generalize hN : va_cpy f g sp.toNatClampNeg dp.toNatClampNeg n.toNatClampNeg = fN at kk
  obtain ⟨vm', Y', step⟩ := Y.arraycopy hexec hown hlink hnat hstat hini (src := b0) (dst := a) (cs := scr) (cd := vp_cell c1 (n1, .inl g)) (srcPos := sp) (destPos := dp) (n := n) (by rw [hT]; exact hc0) (by rw [hT]; exact hc1)
    hs6 (fun _ h => by cases h) hs3 (fun h => by cases h) hk0 hk1 hkk0 hkk1 (by simp [refKind]) h1 h2 h3
    (by rw [nn sp h1, nn n h3]; omega)
    (by rw [nn dp h2, nn n h3]; show ¬ _ > ((arrV c1 n1 (fun j => .int (g j))).slots.size : Int); rw [arrV_size]; omega)
    (fun vm₁ _ i hi => by
      have e : scr.slots.getD (sp.toNatClampNeg + i) .null = .int (f (sp.toNatClampNeg + i)) := by
        rw [Array.getD_eq_getD_getElem?, hs5 _ (by omega)]
        rfl
      rw [e]
      exact ⟨rfl, trivial⟩)
    (g := F0 m pc ls (.int n :: .int dp :: .ref a :: .int sp :: .ref b0 :: rest)) rfl (by rw [hml]) (rest := rest) rfl (by rw [hb]; exact hdg) hframes (by show 2 * 0 + _ + _ ≤ _; omega)
  have e1 : copied scr (vp_cell c1 (n1, .inl g)) sp dp n = vp_cell c1 (n1, .inl fN) := by
    rw [← hN]; exact va_copiedX (fun z => .int z) scr c1 f g hs5 h4
  rw [e1] at Y' step
  have hl : a < H.size := (Array.getElem?_eq_some_iff.mp hc1).1
  have hheap : ((T.setVm vm').setCell a (vp_cell c1 (n1, .inl fN))).heap = H.setIfInBounds a (vp_cell c1 (n1, .inl fN)) := by rw [← hT]; rfl
  have oq : ∀ q : Nat, q ≠ a → (H.setIfInBounds a (vp_cell c1 (n1, .inl fN)))[q]? = H[q]? := fun q hq => by simp [Array.getElem?_setIfInBounds, Ne.symm hq]
  obtain ⟨t, a1, b1⟩ := kk _ _ (hP.set hD ha1 (show (H.setIfInBounds a _)[a]? = some _ by simp [Array.getElem?_setIfInBounds, hl]) oq) ⟨by simp; exact hS.1, fun q g1 g2 => by
      rw [oq q (fun e => g2 (by rw [e]; exact hD.2 q1 _ ha1))]
      exact hS.2.1 q g1 g2, fun q hq => by
      rcases List.mem_append.mp hq with h | h
      · exact hS.2.2 q h
      · obtain ⟨z, -, hz⟩ := List.mem_map.mp h
        rw [← hz]
        exact hD.2 q1 _ ha1⟩ _ hheap Y'
  exact ⟨t, step t a1, b1⟩
theorem ij_fs_set {t : Nat → Nat} {mm m' : ij_M} {j k n : Nat} {v : Value} (hk : k < n) (hv : ij_fc B (t k) m' j k = v) (ho : ∀ i, i ≠ k → ij_fc B (t i) m' j i = ij_fc B (t i) mm j i) :
    ((List.range n).map (fun k => ij_fc B (t k) mm j k)).set k v = (List.range n).map (fun k => ij_fc B (t k) m' j k) := by
  apply List.ext_getElem?
  intro i
  rw [List.getElem?_set, List.getElem?_map, List.getElem?_map]
  by_cases hi : k = i
  · subst hi
    rw [if_pos rfl, if_pos (by simpa using hk), List.getElem?_range hk]
    show some v = some (ij_fc B (t k) m' j k)
    rw [hv]
  · rw [if_neg hi]
    by_cases hin : i < n
    · rw [List.getElem?_range hin]
      show some (ij_fc B (t i) mm j i) = some (ij_fc B (t i) m' j i)
      rw [ho i (fun q => hi q.symm)]
    · rw [List.getElem?_eq_none (by simpa using hin)]
      rfl
theorem ij_put_ok {t : Nat} {mm m' : ij_M} {j k : Nat} {v : Value} (h : ij_put t mm j k v = some m') {ty : FieldType} (hty : ij_tk ty = t) :
    narrow ty (ij_cv B v) = ij_cv B v ∧ fits ty (ij_cv B v) = true ∧ (∀ i, i ≠ j → m'.1 i = mm.1 i) ∧ (∀ i, i ≠ j → m'.2.1 i = mm.2.1 i) ∧ (∀ i, i ≠ j → m'.2.2 i = mm.2.2 i) ∧ ij_fc B t m' j k = ij_cv B v ∧ ∀ t' i, i ≠ k → ij_fc B t' m' j i = ij_fc B t' mm j i := by
  have hfc : ∀ {t' i : Nat}, i ≠ k → m'.1 j i = mm.1 j i → m'.2.1 j i = mm.2.1 j i → m'.2.2 j i = mm.2.2 j i → ij_fc B t' m' j i = ij_fc B t' mm j i := by
    intro t' i _ h1 h2 h3
    unfold ij_fc
    rw [h1, h2, h3]
  unfold ij_put at h
  split at h
  · next x =>
    cases h
    have hi : ty = .int := by cases ty <;> simp [ij_tk] at hty ⊢
    subst hi
    refine ⟨rfl, rfl, fun i hi => ij_ui_ne hi, fun _ _ => rfl, fun _ _ => rfl, ?_, fun t' i hi => hfc hi ?_ rfl rfl⟩
    · show Value.int (ij_ui mm.1 j k x j k) = _
      rw [ij_ui_eq]; simp [upd, ij_cv]
    · show ij_ui mm.1 j k x j i = _
      rw [ij_ui_eq]; simp [upd, hi]
  · next x =>
    cases h
    have hi : ty = .long := by cases ty <;> simp [ij_tk] at hty ⊢
    subst hi
    refine ⟨rfl, rfl, fun _ _ => rfl, fun i hi => ij_ul_ne hi, fun _ _ => rfl, ?_, fun t' i hi => hfc hi rfl ?_ rfl⟩
    · show Value.long (ij_ul mm.2.1 j k x j k) = _
      rw [ij_ul_eq]; simp [vp_updL, ij_cv]
    · show ij_ul mm.2.1 j k x j i = _
      rw [ij_ul_eq]; simp [vp_updL, hi]
  · next x =>
    split at h
    · next hx =>
      cases h
      have e0 : ij_cv B (.ref x) = .ref (B.1 + x) := ij_cv_cell B hx
      refine ⟨?_, ?_, fun _ _ => rfl, fun _ _ => rfl, fun i hi => ij_ur_ne hi, ?_, fun t' i hi => hfc hi rfl rfl ?_⟩
      · rw [e0]; cases ty <;> simp [ij_tk] at hty <;> rfl
      · rw [e0]; cases ty <;> simp [ij_tk] at hty <;> rfl
      · show va_rf ((ij_ur mm.2.2 j k (some x) j k).map (ij_ad B)) = _
        rw [ij_ur_eq, e0]; simp [va_up, va_rf, ij_ad_lt B hx]
      · show ij_ur mm.2.2 j k (some x) j i = _
        rw [ij_ur_eq]; simp [va_up, hi]
    · cases h
  · next x =>
    split at h
    · next hx =>
      cases h
      have hi : ty = .boolean := by cases ty <;> simp [ij_tk] at hty ⊢
      subst hi
      refine ⟨?_, ?_, fun i hi => ij_ui_ne hi, fun _ _ => rfl, fun _ _ => rfl, ?_, fun t' i hi => hfc hi ?_ rfl rfl⟩
      · show narrow .boolean (.int x) = .int x
        rcases hx with rfl | rfl <;> decide
      · show fits .boolean (.int x) = true
        rcases hx with rfl | rfl <;> decide
      · show Value.int (ij_ui mm.1 j k x j k) = _
        rw [ij_ui_eq]; simp [upd, ij_cv]
      · show ij_ui mm.1 j k x j i = _
        rw [ij_ui_eq]; simp [upd, hi]
    · cases h
  · cases h
theorem ij_ws_new (h : ij_H) (kd n : Nat) : ij_ws B tt aC (ij_new h kd n) = ij_ws B tt aC h ++ [(B.1 + h.1.length, ij_cell B tt aC (ij_new h kd n).2 h.1.length (kd, n))] := by
  apply List.ext_getElem?
  intro i
  have hlen : (ij_ws B tt aC h).length = h.1.length := by simp [ij_ws]
  by_cases hi : i < h.1.length
  · rw [List.getElem?_append_left (by rw [hlen]; exact hi), ij_ws_get, ij_ws_get]
    show ((h.1 ++ [(kd, n)])[i]?).map _ = _
    rw [List.getElem?_append_left hi]
    have hne : i ≠ h.1.length := by omega
    have e : ∀ sh, ij_cell B tt aC (ij_new h kd n).2 i sh = ij_cell B tt aC h.2 i sh := by
      intro sh
      unfold ij_cell ij_ar ij_fc ij_new
      simp only [ij_row_ne hne]
    simp only [e]
  · rw [List.getElem?_append_right (by rw [hlen]; omega), ij_ws_get, hlen]
    show ((h.1 ++ [(kd, n)])[i]?).map _ = _
    rw [List.getElem?_append_right (by omega)]
    by_cases h0 : i = h.1.length
    · subst h0
      simp
    · rw [List.getElem?_eq_none (by simp; omega), List.getElem?_eq_none (by simp; omega)]
      rfl
theorem ij_sl_new (h : ij_H) (kd n : Nat) : ij_sl (ij_new h kd n) = ij_sl h + n := by
  simp [ij_sl, ij_new]
/-- a new cell is the next one -/
theorem ij_addr {h : ij_H} {x : va_E} {q : Nat} {H1 : Heap} {cells1 : Nat} (hsz : s.heap.size + cells = B.1 + h.1.length) (hP : va_P D cl (ij_ws B tt aC h ++ [(q, x)]) H1) (hD : va_D (ij_A B) (ij_ws B tt aC h ++ [(q, x)])) (hc : cells1 = cells + 1) (hs : H1.size ≤ s.heap.size + cells1) : q = B.1 + h.1.length := by
  have hlen : (ij_ws B tt aC h).length = h.1.length := by simp [ij_ws]
  have hq : (ij_ws B tt aC h ++ [(q, x)])[h.1.length]? = some (q, x) := by
    rw [List.getElem?_append_right (by omega), hlen]
    simp
  have h1 : q < H1.size := (hP _ _ hq).lt
  have h2 : B.1 ≤ q := hD.2 _ _ hq
  rcases Nat.lt_or_ge q (B.1 + h.1.length) with h3 | h3
  · exfalso
    have hj : q - B.1 < h.1.length := by omega
    obtain ⟨sh, hsh⟩ : ∃ sh, h.1[q - B.1]? = some sh := ⟨_, List.getElem?_eq_getElem hj⟩
    have hw := ij_ws_at (B := B) (tt := tt) (aC := aC) hsh
    have hw2 : (ij_ws B tt aC h ++ [(q, x)])[q - B.1]? = some (B.1 + (q - B.1), ij_cell B tt aC h.2 (q - B.1) sh) := by
      rw [List.getElem?_append_left (by omega)]; exact hw
    have := hD.1 _ _ _ _ hw2 hq (by show B.1 + (q - B.1) = q; omega)
    omega
  · omega
theorem ij_newrow_i (h : ij_H) (kd n : Nat) : (ij_new h kd n).2.1 h.1.length = fun _ => 0 := ij_row_eq
theorem ij_newrow_l (h : ij_H) (kd n : Nat) : (ij_new h kd n).2.2.1 h.1.length = fun _ => 0 := ij_row_eq
theorem ij_newrow_r (h : ij_H) (kd n : Nat) : (ij_new h kd n).2.2.2 h.1.length = fun _ => none := ij_row_eq
set_option maxHeartbeats 8000000 in
theorem ij_hW_ok (hB : B.2.2.category = 1) (hcl : ∀ ci, ci < 12 → cl[ci]? = some (X.1 ci, X.2.1 ci, X.2.2 ci)) (hcw : ∀ ci, ci < 12 → ∀ w ∈ u_ws (X.1 ci) (X.2.1 ci) (X.2.2 ci), w ∈ gw)
    {ty0 : Nat → Nat → FieldType} (hty : ∀ ci, ci < 12 → ∀ k, k < X.2.2 ci → parseFieldDescriptor (X.2.1 ci k).2.2.1 = some (ty0 ci k)) (htk : ∀ ci, ci < 12 → ∀ k, k < X.2.2 ci → ij_tk (ty0 ci k) = tt ci k) (ht4 : ∀ ci, ci < 12 → ∀ k, k < X.2.2 ci → tt ci k < 4) (hnm : ∀ ci, ci < 12 → ∀ a, a < X.2.2 ci → ∀ b, b < X.2.2 ci → a ≠ b → (X.2.1 ci a).2.1 ≠ (X.2.1 ci b).2.1)
    (hcn : X.1 8 = "ScaleForge$Tray" ∧ X.1 4 = "ScaleForge$Scale" ∧ X.1 6 = "ScaleForge$Studies")
    (hx : p.tables.exec = Jvm.exec) (hb : c.code = cc) {i : Instr} (hd : decode cc pc = .ok (i, ij_len i)) (hown : s.vm.findClass own = some m.cls) (hts : ∀ w ∈ gw, w.before args s = true) (hE : ij_Ev B D cl aC n1 n2 sr xt s) {h h' : ij_H} (hP : va_P D cl (ij_ws B tt aC h) H) (hS : va_S (ij_A B) s.heap H locs) (hml : ls.size = c.maxLocals)
    {ini : Prop} (hini : ini → meth.name = "<init>") (hsz : s.heap.size + cells = B.1 + h.1.length) (hbase : B.1 ≤ s.heap.size) (hroom : cells + h'.1.length ≤ R.cells + h.1.length ∧ slots + ij_sl h' ≤ R.slots + ij_sl h)
    {a b : Nat} (hok : ij_okW X gw own ini R i a b) {st st' : List Value} (hr : ij_hW tt xt i a b st h = some (st', h'))
    (k : ∀ (H1 : Heap) (locs1 : List Loc) (cells1 slots1 : Nat), cells1 + h.1.length = cells + h'.1.length → slots1 + ij_sl h = slots + ij_sl h' → va_P D cl (ij_ws B tt aC h') H1 → va_S (ij_A B) s.heap H1 locs1 → W p l e R s m args below meth c H1 locs1 cells1 slots1 Q (F0 m (pc + ij_len i) ls (st'.map (ij_cv B)))) : W p l e R s m args below meth c H locs cells slots Q (F0 m pc ls (st.map (ij_cv B))) := by
  obtain ⟨hK, e2, e3, ⟨ao1, ao2, ao3⟩, e7, e8, e9, e10, e11, e12⟩ := hE
  have hD := ij_ws_D B tt aC h
  have hA : ∀ q : Nat, s.heap.size ≤ q → ij_A B q := fun q hq => Nat.le_trans hbase hq
  unfold ij_hW at hr
  split at hr
  · -- putfield
    split at hr
    · next v j r =>
      split at hr
      · next hj =>
        split at hr
        · next kd n hsh =>
          split at hr
          · next hc =>
            obtain ⟨rfl, h100, hbn⟩ := hc
            obtain ⟨m', hm, e0⟩ := Option.map_eq_some_iff.mp hr
            cases e0
            obtain ⟨g1, g2, g3, g4⟩ := hok
            obtain ⟨f1, f2, f3, f4, f5, f6, f7⟩ := ij_put_ok (B := B) hm (htk kd g1 b g2)
            have hw := ij_ws_at (B := B) (tt := tt) (aC := aC) hsh
            rw [show ij_cell B tt aC h.2 j (kd, n) = .inr (kd, (List.range n).map (fun k => ij_fc B (tt kd k) h.2 j k)) from if_pos h100] at hw
            have hset := ij_ws_set (B := B) (tt := tt) (aC := aC) (m' := m') (x := .inr (kd, ((List.range n).map (fun k => ij_fc B (tt kd k) h.2 j k)).set b (ij_cv B v))) hsh (by
              rw [show ij_cell B tt aC m' j (kd, n) = .inr (kd, (List.range n).map (fun k => ij_fc B (tt kd k) m' j k)) from if_pos h100, ij_fs_set hbn f6 (fun i hi => f7 _ i hi)]) f3 f4 f5
            rw [List.map_cons, List.map_cons, ij_cv_cell B hj]
            rcases g4 with g4 | ⟨g4, g5, g6⟩
            · refine va_put hx hb hts (hcw kd g1) (ty0 kd) (hty kd g1) (hnm kd g1) hown hK hP hD hS j hw (hcl kd g1) b g2 (hts _ g3) (fun _ q => q) g4 (hty kd g1 b g2) f1 f2 (by simpa using hbn) hd (fun H1 locs1 hP1 hD1 hS1 => ?_)
              rw [hset] at hP1
              exact k H1 locs1 cells slots rfl rfl hP1 hS1
            · refine va_putF hx hb hts (hcw kd g1) (ty0 kd) (hty kd g1) (hnm kd g1) hown hK hP hD hS j hw (hcl kd g1) b g2 (hts _ g3) (fun _ q => q) g4 (hini g5) g6 (hty kd g1 b g2) f1 f2 (by simpa using hbn) hd (fun H1 locs1 hP1 hD1 hS1 => ?_)
              rw [hset] at hP1
              exact k H1 locs1 cells slots rfl rfl hP1 hS1
          · cases hr
        · cases hr
      · cases hr
    · cases hr
  · -- iastore
    split at hr
    · next x i j r =>
      split at hr
      · next hj =>
        split at hr
        · next n hsh =>
          split at hr
          · cases hr
          · next hin =>
            cases hr
            rw [List.map_cons, List.map_cons, List.map_cons, ij_cv_cell B hj]
            refine va_iast hx hb hK hP hD hS j 0 (cA := aC 0) (n := n) (f := h.2.1 j) (ij_ws_at hsh) rfl hin hd (fun H1 locs1 hP1 hD1 hS1 => ?_)
            rw [ij_ws_set (m' := (ij_ui h.2.1 j i.toNatClampNeg x, h.2.2)) hsh (by show Sum.inl (aC 0, n, Sum.inl (ij_ui h.2.1 j i.toNatClampNeg x j)) = _; rw [ij_ui_eq]) (fun i hi => ij_ui_ne hi) (fun _ _ => rfl) (fun _ _ => rfl)] at hP1
            exact k H1 locs1 cells slots rfl rfl hP1 hS1
        · cases hr
      · cases hr
    · cases hr
  · -- bastore
    split at hr
    · next x i j r =>
      split at hr
      · next hj =>
        split at hr
        · next n hsh =>
          split at hr
          · cases hr
          · next hin =>
            cases hr
            rw [List.map_cons, List.map_cons, List.map_cons, ij_cv_cell B hj]
            refine va_bast hx hb hK hP hD hS j 2 (cA := aC 2) (n := n) (f := h.2.1 j) (ij_ws_at hsh) rfl hin hd (fun H1 locs1 hP1 hD1 hS1 => ?_)
            rw [ij_ws_set (m' := (ij_ui h.2.1 j i.toNatClampNeg (vp_nar .byte x), h.2.2)) hsh (by show Sum.inl (aC 2, n, Sum.inl (ij_ui h.2.1 j i.toNatClampNeg (vp_nar .byte x) j)) = _; rw [ij_ui_eq]) (fun i hi => ij_ui_ne hi) (fun _ _ => rfl) (fun _ _ => rfl)] at hP1
            exact k H1 locs1 cells slots rfl rfl hP1 hS1
        · next n hsh =>
          split at hr
          · cases hr
          · next hin =>
            cases hr
            rw [List.map_cons, List.map_cons, List.map_cons, ij_cv_cell B hj]
            refine va_zast hx hb hK hP hD hS j 3 (cA := aC 3) (n := n) (f := h.2.1 j) (ij_ws_at hsh) rfl hin hd (fun H1 locs1 hP1 hD1 hS1 => ?_)
            rw [ij_ws_set (m' := (ij_ui h.2.1 j i.toNatClampNeg (vp_nar .boolean x), h.2.2)) hsh (by show Sum.inl (aC 3, n, Sum.inl (ij_ui h.2.1 j i.toNatClampNeg (vp_nar .boolean x) j)) = _; rw [ij_ui_eq]) (fun i hi => ij_ui_ne hi) (fun _ _ => rfl) (fun _ _ => rfl)] at hP1
            exact k H1 locs1 cells slots rfl rfl hP1 hS1
        · cases hr
      · cases hr
    · cases hr
  · -- lastore
    split at hr
    · next x i j r =>
      split at hr
      · next hj =>
        split at hr
        · next n hsh =>
          split at hr
          · cases hr
          · next hin =>
            cases hr
            rw [List.map_cons, List.map_cons, List.map_cons, ij_cv_cell B hj]
            refine va_last hx hb hK hP hD hS j 1 (cA := aC 1) (n := n) (f := h.2.2.1 j) (ij_ws_at hsh) rfl hin hd (fun H1 locs1 hP1 hD1 hS1 => ?_)
            rw [ij_ws_set (m' := (h.2.1, ij_ul h.2.2.1 j i.toNatClampNeg x, h.2.2.2)) hsh (by show Sum.inl (aC 1, n, Sum.inr (Sum.inl (ij_ul h.2.2.1 j i.toNatClampNeg x j))) = _; rw [ij_ul_eq]) (fun _ _ => rfl) (fun i hi => ij_ul_ne hi) (fun _ _ => rfl)] at hP1
            exact k H1 locs1 cells slots rfl rfl hP1 hS1
        · cases hr
      · cases hr
    · cases hr
  · -- aastore
    split at hr
    · next v i j r =>
      split at hr
      · next hjv =>
        split at hr
        · next kd n kv nv hsh hvh =>
          split at hr
          · cases hr
          · next hin =>
            cases hr
            have hin2 : vp_in i n := fun q => hin (Or.inr (Or.inr (Or.inr q)))
            have hkv : kv = ij_ecl kd := Decidable.byContradiction fun q => hin (Or.inr (Or.inr (Or.inl q)))
            have h3 : kd = 104 ∨ kd = 105 ∨ kd = 106 := by
              have q1 : ¬ kd < 104 := fun q => hin (Or.inl q)
              have q2 : ¬ 106 < kd := fun q => hin (Or.inr (Or.inl q))
              omega
            rw [List.map_cons, List.map_cons, List.map_cons, ij_cv_cell B hjv.1, ij_cv_cell B hjv.2]
            have eup : ∀ (f : Nat → Option Nat), (fun q => (va_up f i.toNatClampNeg (some v) q).map (ij_ad B)) = va_up (fun q => (f q).map (ij_ad B)) i.toNatClampNeg (some (B.1 + v)) := by
              intro f
              funext q
              unfold va_up
              split
              · show some (ij_ad B v) = _
                rw [ij_ad_lt B hjv.2]
              · rfl
            have hwv := ij_ws_at (B := B) (tt := tt) (aC := aC) hvh
            rcases h3 with rfl | rfl | rfl
            · subst hkv
              refine va_astq hx hb hK hP hD hS j 4 v 8 (cA := aC 4) (r := (X.1 8, X.2.1 8, X.2.2 8)) (n := n) (f := fun i => (h.2.2.2 j i).map (ij_ad B)) (ij_ws_at hsh) (by show _ = some (aC 4, FieldType.object (X.1 8)); rw [hcn.1]; rfl) hwv (hcl 8 (by omega)) hin2 hd (fun H1 locs1 hP1 hD1 hS1 => ?_)
              rw [ij_ws_set (m' := (h.2.1, h.2.2.1, ij_ur h.2.2.2 j i.toNatClampNeg (some v))) hsh (by show Sum.inl (aC 4, n, Sum.inr (Sum.inr (Sum.inr (Sum.inr (fun q => (ij_ur h.2.2.2 j i.toNatClampNeg (some v) j q).map (ij_ad B)))))) = _; rw [ij_ur_eq, eup]) (fun _ _ => rfl) (fun _ _ => rfl) (fun i hi => ij_ur_ne hi)] at hP1
              exact k H1 locs1 cells slots rfl rfl hP1 hS1
            · subst hkv
              refine va_astq hx hb hK hP hD hS j 5 v 4 (cA := aC 5) (r := (X.1 4, X.2.1 4, X.2.2 4)) (n := n) (f := fun i => (h.2.2.2 j i).map (ij_ad B)) (ij_ws_at hsh) (by show _ = some (aC 5, FieldType.object (X.1 4)); rw [hcn.2.1]; rfl) hwv (hcl 4 (by omega)) hin2 hd (fun H1 locs1 hP1 hD1 hS1 => ?_)
              rw [ij_ws_set (m' := (h.2.1, h.2.2.1, ij_ur h.2.2.2 j i.toNatClampNeg (some v))) hsh (by show Sum.inl (aC 5, n, Sum.inr (Sum.inr (Sum.inr (Sum.inr (fun q => (ij_ur h.2.2.2 j i.toNatClampNeg (some v) j q).map (ij_ad B)))))) = _; rw [ij_ur_eq, eup]) (fun _ _ => rfl) (fun _ _ => rfl) (fun i hi => ij_ur_ne hi)] at hP1
              exact k H1 locs1 cells slots rfl rfl hP1 hS1
            · subst hkv
              refine va_astq hx hb hK hP hD hS j 6 v 6 (cA := aC 6) (r := (X.1 6, X.2.1 6, X.2.2 6)) (n := n) (f := fun i => (h.2.2.2 j i).map (ij_ad B)) (ij_ws_at hsh) (by show _ = some (aC 6, FieldType.object (X.1 6)); rw [hcn.2.2]; rfl) hwv (hcl 6 (by omega)) hin2 hd (fun H1 locs1 hP1 hD1 hS1 => ?_)
              rw [ij_ws_set (m' := (h.2.1, h.2.2.1, ij_ur h.2.2.2 j i.toNatClampNeg (some v))) hsh (by show Sum.inl (aC 6, n, Sum.inr (Sum.inr (Sum.inr (Sum.inr (fun q => (ij_ur h.2.2.2 j i.toNatClampNeg (some v) j q).map (ij_ad B)))))) = _; rw [ij_ur_eq, eup]) (fun _ _ => rfl) (fun _ _ => rfl) (fun i hi => ij_ur_ne hi)] at hP1
              exact k H1 locs1 cells slots rfl rfl hP1 hS1
        · cases hr
      · cases hr
    · cases hr
  · -- newarray
    next t =>
    split at hr
    · next n r =>
      split at hr
      · cases hr
      · next hn =>
        cases hr
        have hn0 : ¬ n < 0 := fun q => hn (Or.inl q)
        have hak : ¬ ij_akind t = 0 := fun q => hn (Or.inr (Or.inl q))
        have h64 : ¬ 65536 < n.toNatClampNeg := fun q => hn (Or.inr (Or.inr (Or.inl q)))
        have hl : h.1.length < 1000000 := by
          have q : ¬ 999999 < h.1.length := fun q => hn (Or.inr (Or.inr (Or.inr q)))
          omega
        have hr1 : cells + 1 ≤ R.cells := by
          have := hroom.1
          simp [ij_new] at this
          omega
        have hr2 : slots + n.toNatClampNeg ≤ R.slots := by
          have := hroom.2
          rw [ij_sl_new] at this
          omega
        cases t with
        | int =>
          refine va_newa (atype := .int) (ty := .int) hx hb (hts _ hok) rfl hK hP hD hS hA (N' := n.toNatClampNeg) (a0 := (n.toNatClampNeg, .inl (fun _ => 0))) (fun cA => rfl) hn0 rfl (by show _ * 4 ≤ _; omega) hr1 hr2 hd (fun q cA H1 hK1 hP1 hD1 hS1 => ij_W_size (fun hs => ?_))
          have h1 : s.vm.findClass ("[" ++ FieldType.int.toString) = some cA := (hK1.2 7 (cA, .int) rfl).2
          have h2 : s.vm.findClass ("[" ++ FieldType.int.toString) = some (aC 0) := (hK.2 0 (aC 0, .int) rfl).2
          cases Option.some.inj (h1.symm.trans h2)
          cases ij_addr hsz hP1 hD1 rfl hs
          have e : ij_cell B tt aC (ij_new h 100 n.toNatClampNeg).2 h.1.length (100, n.toNatClampNeg) = .inl (aC 0, n.toNatClampNeg, .inl (fun _ => 0)) := by
            show Sum.inl (aC 0, _, Sum.inl ((ij_new h 100 n.toNatClampNeg).2.1 h.1.length)) = _
            rw [ij_newrow_i]
          rw [← e, ← ij_ws_new] at hP1
          have := k H1 locs (cells + 1) (slots + n.toNatClampNeg) (by simp [ij_akind, ij_new]; omega) (by rw [show ij_akind .int = 100 from rfl, ij_sl_new]; omega) hP1 hS1
          rwa [List.map_cons, ij_cv_cell B hl] at this
        | long =>
          refine va_newa (atype := .long) (ty := .long) hx hb (hts _ hok) rfl hK hP hD hS hA (N' := n.toNatClampNeg) (a0 := (n.toNatClampNeg, .inr (.inl (fun _ => 0)))) (fun cA => rfl) hn0 rfl (by show _ * 8 ≤ _; omega) hr1 hr2 hd (fun q cA H1 hK1 hP1 hD1 hS1 => ij_W_size (fun hs => ?_))
          have h1 : s.vm.findClass ("[" ++ FieldType.long.toString) = some cA := (hK1.2 7 (cA, .long) rfl).2
          have h2 : s.vm.findClass ("[" ++ FieldType.long.toString) = some (aC 1) := (hK.2 1 (aC 1, .long) rfl).2
          cases Option.some.inj (h1.symm.trans h2)
          cases ij_addr hsz hP1 hD1 rfl hs
          have e : ij_cell B tt aC (ij_new h 101 n.toNatClampNeg).2 h.1.length (101, n.toNatClampNeg) = .inl (aC 1, n.toNatClampNeg, .inr (.inl (fun _ => 0))) := by
            show Sum.inl (aC 1, _, Sum.inr (Sum.inl ((ij_new h 101 n.toNatClampNeg).2.2.1 h.1.length))) = _
            rw [ij_newrow_l]
          rw [← e, ← ij_ws_new] at hP1
          have := k H1 locs (cells + 1) (slots + n.toNatClampNeg) (by simp [ij_akind, ij_new]; omega) (by rw [show ij_akind .long = 101 from rfl, ij_sl_new]; omega) hP1 hS1
          rwa [List.map_cons, ij_cv_cell B hl] at this
        | byte =>
          refine va_newa (atype := .byte) (ty := .byte) hx hb (hts _ hok) rfl hK hP hD hS hA (N' := n.toNatClampNeg) (a0 := (n.toNatClampNeg, .inl (fun _ => 0))) (fun cA => rfl) hn0 rfl (by show _ * 1 ≤ _; omega) hr1 hr2 hd (fun q cA H1 hK1 hP1 hD1 hS1 => ij_W_size (fun hs => ?_))
          have h1 : s.vm.findClass ("[" ++ FieldType.byte.toString) = some cA := (hK1.2 7 (cA, .byte) rfl).2
          have h2 : s.vm.findClass ("[" ++ FieldType.byte.toString) = some (aC 2) := (hK.2 2 (aC 2, .byte) rfl).2
          cases Option.some.inj (h1.symm.trans h2)
          cases ij_addr hsz hP1 hD1 rfl hs
          have e : ij_cell B tt aC (ij_new h 102 n.toNatClampNeg).2 h.1.length (102, n.toNatClampNeg) = .inl (aC 2, n.toNatClampNeg, .inl (fun _ => 0)) := by
            show Sum.inl (aC 2, _, Sum.inl ((ij_new h 102 n.toNatClampNeg).2.1 h.1.length)) = _
            rw [ij_newrow_i]
          rw [← e, ← ij_ws_new] at hP1
          have := k H1 locs (cells + 1) (slots + n.toNatClampNeg) (by simp [ij_akind, ij_new]; omega) (by rw [show ij_akind .byte = 102 from rfl, ij_sl_new]; omega) hP1 hS1
          rwa [List.map_cons, ij_cv_cell B hl] at this
        | boolean =>
          refine va_newa (atype := .boolean) (ty := .boolean) hx hb (hts _ hok) rfl hK hP hD hS hA (N' := n.toNatClampNeg) (a0 := (n.toNatClampNeg, .inl (fun _ => 0))) (fun cA => rfl) hn0 rfl (by show _ * 1 ≤ _; omega) hr1 hr2 hd (fun q cA H1 hK1 hP1 hD1 hS1 => ij_W_size (fun hs => ?_))
          have h1 : s.vm.findClass ("[" ++ FieldType.boolean.toString) = some cA := (hK1.2 7 (cA, .boolean) rfl).2
          have h2 : s.vm.findClass ("[" ++ FieldType.boolean.toString) = some (aC 3) := (hK.2 3 (aC 3, .boolean) rfl).2
          cases Option.some.inj (h1.symm.trans h2)
          cases ij_addr hsz hP1 hD1 rfl hs
          have e : ij_cell B tt aC (ij_new h 103 n.toNatClampNeg).2 h.1.length (103, n.toNatClampNeg) = .inl (aC 3, n.toNatClampNeg, .inl (fun _ => 0)) := by
            show Sum.inl (aC 3, _, Sum.inl ((ij_new h 103 n.toNatClampNeg).2.1 h.1.length)) = _
            rw [ij_newrow_i]
          rw [← e, ← ij_ws_new] at hP1
          have := k H1 locs (cells + 1) (slots + n.toNatClampNeg) (by simp [ij_akind, ij_new]; omega) (by rw [show ij_akind .boolean = 103 from rfl, ij_sl_new]; omega) hP1 hS1
          rwa [List.map_cons, ij_cv_cell B hl] at this
        | _ => exact absurd rfl hak
    · cases hr
  · -- anewarray
    split at hr
    · next n r =>
      split at hr
      · cases hr
      · next hn =>
        cases hr
        have hn0 : ¬ n < 0 := fun q => hn (Or.inl q)
        have h64 : ¬ 65536 < n.toNatClampNeg := fun q => hn (Or.inr (Or.inr (Or.inr (Or.inl q))))
        have hl : h.1.length < 1000000 := by
          have q : ¬ 999999 < h.1.length := fun q => hn (Or.inr (Or.inr (Or.inr (Or.inr q))))
          omega
        have h3 : a = 104 ∨ a = 105 ∨ a = 106 := by
          have q1 : ¬ a < 104 := fun q => hn (Or.inr (Or.inl q))
          have q2 : ¬ 106 < a := fun q => hn (Or.inr (Or.inr (Or.inl q)))
          omega
        have hr1 : cells + 1 ≤ R.cells := by
          have := hroom.1
          simp [ij_new] at this
          omega
        have hr2 : slots + n.toNatClampNeg ≤ R.slots := by
          have := hroom.2
          rw [ij_sl_new] at this
          omega
        rcases h3 with rfl | rfl | rfl
        · have hok : Cond.classLink own _ (X.1 8) ∈ gw := hok
          rw [hcn.1] at hok
          refine va_newq hx hb hown (hts _ hok) ao1 hK hP hD hS hA hn0 rfl (by omega) hr1 hr2 hd (fun q cA H1 hK1 hP1 hD1 hS1 => ij_W_size (fun hs => ?_))
          obtain ⟨_, _, _, _, _, h1⟩ := (hK1.2 7 (cA, .object "ScaleForge$Tray") rfl).2
          obtain ⟨_, _, _, _, _, h2⟩ := (hK.2 4 (aC 4, .object "ScaleForge$Tray") rfl).2
          cases Option.some.inj (h1.symm.trans h2)
          cases ij_addr hsz hP1 hD1 rfl hs
          have e : ij_cell B tt aC (ij_new h 104 n.toNatClampNeg).2 h.1.length (104, n.toNatClampNeg) = .inl (aC 4, n.toNatClampNeg, .inr (.inr (.inr (.inr (fun _ => none))))) := by
            show Sum.inl (aC 4, _, Sum.inr (Sum.inr (Sum.inr (Sum.inr (fun i => ((ij_new h 104 n.toNatClampNeg).2.2.2 h.1.length i).map (ij_ad B)))))) = _
            rw [ij_newrow_r]
            rfl
          rw [← e, ← ij_ws_new] at hP1
          have := k H1 locs (cells + 1) (slots + n.toNatClampNeg) (by simp [ij_new]; omega) (by rw [ij_sl_new]; omega) hP1 hS1
          rwa [List.map_cons, ij_cv_cell B hl] at this
        · have hok : Cond.classLink own _ (X.1 4) ∈ gw := hok
          rw [hcn.2.1] at hok
          refine va_newq hx hb hown (hts _ hok) ao2 hK hP hD hS hA hn0 rfl (by omega) hr1 hr2 hd (fun q cA H1 hK1 hP1 hD1 hS1 => ij_W_size (fun hs => ?_))
          obtain ⟨_, _, _, _, _, h1⟩ := (hK1.2 7 (cA, .object "ScaleForge$Scale") rfl).2
          obtain ⟨_, _, _, _, _, h2⟩ := (hK.2 5 (aC 5, .object "ScaleForge$Scale") rfl).2
          cases Option.some.inj (h1.symm.trans h2)
          cases ij_addr hsz hP1 hD1 rfl hs
          have e : ij_cell B tt aC (ij_new h 105 n.toNatClampNeg).2 h.1.length (105, n.toNatClampNeg) = .inl (aC 5, n.toNatClampNeg, .inr (.inr (.inr (.inr (fun _ => none))))) := by
            show Sum.inl (aC 5, _, Sum.inr (Sum.inr (Sum.inr (Sum.inr (fun i => ((ij_new h 105 n.toNatClampNeg).2.2.2 h.1.length i).map (ij_ad B)))))) = _
            rw [ij_newrow_r]
            rfl
          rw [← e, ← ij_ws_new] at hP1
          have := k H1 locs (cells + 1) (slots + n.toNatClampNeg) (by simp [ij_new]; omega) (by rw [ij_sl_new]; omega) hP1 hS1
          rwa [List.map_cons, ij_cv_cell B hl] at this
        · have hok : Cond.classLink own _ (X.1 6) ∈ gw := hok
          rw [hcn.2.2] at hok
          refine va_newq hx hb hown (hts _ hok) ao3 hK hP hD hS hA hn0 rfl (by omega) hr1 hr2 hd (fun q cA H1 hK1 hP1 hD1 hS1 => ij_W_size (fun hs => ?_))
          obtain ⟨_, _, _, _, _, h1⟩ := (hK1.2 7 (cA, .object "ScaleForge$Studies") rfl).2
          obtain ⟨_, _, _, _, _, h2⟩ := (hK.2 6 (aC 6, .object "ScaleForge$Studies") rfl).2
          cases Option.some.inj (h1.symm.trans h2)
          cases ij_addr hsz hP1 hD1 rfl hs
          have e : ij_cell B tt aC (ij_new h 106 n.toNatClampNeg).2 h.1.length (106, n.toNatClampNeg) = .inl (aC 6, n.toNatClampNeg, .inr (.inr (.inr (.inr (fun _ => none))))) := by
            show Sum.inl (aC 6, _, Sum.inr (Sum.inr (Sum.inr (Sum.inr (fun i => ((ij_new h 106 n.toNatClampNeg).2.2.2 h.1.length i).map (ij_ad B)))))) = _
            rw [ij_newrow_r]
            rfl
          rw [← e, ← ij_ws_new] at hP1
          have := k H1 locs (cells + 1) (slots + n.toNatClampNeg) (by simp [ij_new]; omega) (by rw [ij_sl_new]; omega) hP1 hS1
          rwa [List.map_cons, ij_cv_cell B hl] at this
    · cases hr
  · -- new
    split at hr
    · next hc =>
      cases hr
      obtain ⟨g1, g2, g3, g4, g5⟩ := hok
      subst g2
      have hr1 : cells + 1 ≤ R.cells := by
        have := hroom.1
        simp [ij_new] at this
        omega
      have hr2 : slots + X.2.2 a ≤ R.slots := by
        have := hroom.2
        rw [ij_sl_new] at this
        omega
      refine va_new (ci := a) (fs := (List.range (X.2.2 a)).map (fun k => ij_fc B (tt a k) (ij_new h a (X.2.2 a)).2 h.1.length k)) hx hb hts (hcw a g1) (ty0 a) (hty a g1) hown (hts _ g3) (hts _ g4) (hts _ g5) hK hP hD hS hA (hcl a g1) (fun j hj => ?_) hr1 hr2 hd (fun q H1 hP1 hD1 hS1 => ij_W_size (fun hs => ?_))
      · have e1 := htk a g1 j hj
        simp only [vp_V, List.getD_eq_getElem?_getD, List.getElem?_map, List.getElem?_range hj, Option.map_some, Option.getD_some]
        unfold ij_fc
        rw [ij_newrow_i, ij_newrow_l, ij_newrow_r, ← e1]
        have e2 := ht4 a g1 j hj
        rw [← e1] at e2
        generalize ty0 a j = t at e2 ⊢
        cases t <;> first | rfl | (exfalso; simp [ij_tk] at e2)
      · cases ij_addr hsz hP1 hD1 rfl hs
        have e : ij_cell B tt aC (ij_new h a (X.2.2 a)).2 h.1.length (a, X.2.2 a) = .inr (a, (List.range (X.2.2 a)).map (fun k => ij_fc B (tt a k) (ij_new h a (X.2.2 a)).2 h.1.length k)) := if_pos (by show a < 100; omega)
        rw [← e, ← ij_ws_new] at hP1
        have := k H1 locs (cells + 1) (slots + X.2.2 a) (by simp [ij_new]; omega) (by rw [ij_sl_new]; omega) hP1 hS1
        rwa [List.map_cons, ij_cv_cell B hc.2] at this
    · cases hr
  · -- arraycopy
    split at hr
    · next n dp d sp s0 r =>
      split at hr
      · next hc =>
        obtain ⟨c1, c2, c3, c4, c5⟩ := hc
        obtain ⟨g1, g2, g3, g4, g5, g6⟩ := hok rfl
        have hloc : ((r.map (ij_cv B)).map fun v => v.category).sum + (nativeFrameWords "java/lang/System" "arraycopy" 5 + 11) ≤ R.locals := by
          rw [ij_cv_sum B hB, show nativeFrameWords "java/lang/System" "arraycopy" 5 = 7 from by decide +kernel]
          omega
        split at hr
        · next nd hdh =>
          split at hr
          · cases hr
          · next hd5 =>
            split at hr
            · next hs0 =>
              split at hr
              · next ns hsh =>
                split at hr
                · cases hr
                · next hs4 =>
                  cases hr
                  simp only [List.map_cons, ij_cv_cell B c1, ij_cv_cell B hs0]
                  refine va_copyi hx hb hml.symm hown (hts _ g1) (hts _ g2) (hts _ g3) (hts _ g4) hK hP hD hS s0 d 0 0 (c0 := aC 0) (c1 := aC 0) (n0 := ns) (n1 := nd) (f := h.2.1 s0) (g := h.2.1 d) (ty := .int) (ij_ws_at hsh) (ij_ws_at hdh) rfl rfl rfl c2 c3 c4 (by omega) (by omega) (fun _ _ => rfl) g5 hloc hd (fun H1 locs1 hP1 hD1 hS1 => ?_)
                  rw [ij_ws_set (m' := (ij_row h.2.1 d (va_cpy (h.2.1 s0) (h.2.1 d) sp.toNatClampNeg dp.toNatClampNeg n.toNatClampNeg), h.2.2)) hdh (by show Sum.inl (aC 0, nd, Sum.inl (ij_row h.2.1 d _ d)) = _; rw [ij_row_eq]) (fun i hi => ij_row_ne hi) (fun _ _ => rfl) (fun _ _ => rfl)] at hP1
                  exact k H1 locs1 cells slots rfl rfl hP1 hS1
              · cases hr
            · next hs0 =>
              split at hr
              · next ns f hxt =>
                split at hr
                · cases hr
                · next hs4 =>
                  cases hr
                  obtain ⟨⟨q1, q2⟩, ty, q3, q4, -⟩ := e10 _ _ _ _ hxt
                  cases q4 rfl
                  simp only [List.map_cons, ij_cv_cell B c1, ij_cv_out B q1 q2]
                  refine ij_copyt hx hb hml.symm hown (hts _ g1) (hts _ g2) (hts _ g3) (hts _ g4) hK hP hD hS q3 d 0 (c1 := aC 0) (n1 := nd) (g := h.2.1 d) (ij_ws_at hdh) rfl c2 c3 c4 (by omega) (by omega) g5 hloc hd (fun H1 locs1 hP1 hS1 => ?_)
                  rw [ij_ws_set (m' := (ij_row h.2.1 d (va_cpy f (h.2.1 d) sp.toNatClampNeg dp.toNatClampNeg n.toNatClampNeg), h.2.2)) hdh (by show Sum.inl (aC 0, nd, Sum.inl (ij_row h.2.1 d _ d)) = _; rw [ij_row_eq]) (fun i hi => ij_row_ne hi) (fun _ _ => rfl) (fun _ _ => rfl)] at hP1
                  exact k H1 locs1 cells slots rfl rfl hP1 hS1
              · cases hr
        · next nd hdh =>
          split at hr
          · cases hr
          · next hd5 =>
            split at hr
            · next hs0 =>
              split at hr
              · next ns hsh =>
                split at hr
                · cases hr
                · next hs4 =>
                  cases hr
                  simp only [List.map_cons, ij_cv_cell B c1, ij_cv_cell B hs0]
                  refine va_copyl hx hb hml.symm hown (hts _ g1) (hts _ g2) (hts _ g3) (hts _ g4) hK hP hD hS s0 d 1 1 (c0 := aC 1) (c1 := aC 1) (n0 := ns) (n1 := nd) (f := h.2.2.1 s0) (g := h.2.2.1 d) (ty := .long) (ij_ws_at hsh) (ij_ws_at hdh) rfl rfl rfl c2 c3 c4 (by omega) (by omega) (fun _ _ => rfl) g5 hloc hd (fun H1 locs1 hP1 hD1 hS1 => ?_)
                  rw [ij_ws_set (m' := (h.2.1, ij_row h.2.2.1 d (va_cpy (h.2.2.1 s0) (h.2.2.1 d) sp.toNatClampNeg dp.toNatClampNeg n.toNatClampNeg), h.2.2.2)) hdh (by show Sum.inl (aC 1, nd, Sum.inr (Sum.inl (ij_row h.2.2.1 d _ d))) = _; rw [ij_row_eq]) (fun _ _ => rfl) (fun i hi => ij_row_ne hi) (fun _ _ => rfl)] at hP1
                  exact k H1 locs1 cells slots rfl rfl hP1 hS1
              · cases hr
            · cases hr
        · cases hr
      · cases hr
    · cases hr
  · cases hr
end IJ
end
section
/-! Runs of the small machine are runs of the machine. -/
abbrev ij_Z : Type := (Nat → MethodName) × (Nat → ByteArray) × (Nat → Option FieldType) × (Nat → Nat) × (Nat → Nat) × Nat
def ij_rok (rt : Option FieldType) (k : Nat) : Prop := match k with
  | 0 => rt = none
  | 1 => rt = some .int
  | 2 => rt = some .long
  | 3 => rt = some .boolean
  | 4 => rt = some .byte
  | 5 => rt = some .char
  | _ => ∃ t, rt = some t ∧ ((∃ n, t = .object n) ∨ ∃ u, t = .array u)
def ij_room (Z : ij_Z) (y mc ms : Nat) : Room := { frames := Z.2.2.2.1 y, cells := mc, slots := ms, locals := Z.2.2.2.2.1 y }
/-- what a call's row must hold of the tables -/
def ij_okB (G : ij_G) (Z : ij_Z) (gw : List Cond) (y a b : Nat) : Prop :=
  a < Z.2.2.2.2.2 ∧ Cond.initialized (Z.1 a).cls ∈ gw ∧ Cond.code (Z.1 a) (Z.2.1 a) (G.2.1 a) (Z.2.2.1 a) ∈ gw ∧ ((Z.1 a).cls ≠ "java/lang/invoke/MethodHandle" ∧ (Z.1 a).cls ≠ "java/lang/invoke/VarHandle" ∧ (parseMethodDescriptor (Z.1 a).desc).map (fun d => d.parameters.length) = some b) ∧ (Z.2.2.2.1 a + 1 ≤ Z.2.2.2.1 y ∧ 8 + (G.2.1 a + 11) + Z.2.2.2.2.1 a ≤ Z.2.2.2.2.1 y)
def ij_okC (G : ij_G) (Z : ij_Z) (X : ij_Cx) (gw : List Cond) (n2 : ij_N2) (y : Nat) (i : Instr) (a b c : Nat) : Prop := match i with
  | .invokevirtual idx => 10 ≤ c → (ij_okB G Z gw y a b ∧ Cond.methodLink (Z.1 y).cls idx (Z.1 a) ∈ gw ∧ Cond.instanceMethod (Z.1 a) ∈ gw ∧ Cond.selects (Z.1 a).cls (Z.1 a) (Z.1 a) ∈ gw ∧ (Z.1 a).cls = (if c = 30 then "java/lang/String" else X.1 (c - 10)))
  | .invokestatic idx => (c = 1 → (ij_okB G Z gw y a b ∧ Cond.methodLink (Z.1 y).cls idx (Z.1 a) ∈ gw ∧ Cond.static (Z.1 a) ∈ gw)) ∧ (c = 4 → (ij_okB G Z gw y a b ∧ Cond.static (Z.1 a) ∈ gw ∧ ∃ hst, ((Z.1 y).cls, idx, Z.1 a, hst) ∈ n2))
  | .invokespecial idx => (c = 2 → (ij_okB G Z gw y a b ∧ Cond.methodLink (Z.1 y).cls idx (Z.1 a) ∈ gw ∧ Cond.instanceMethod (Z.1 a) ∈ gw ∧ (Z.1 a).name = "<init>" ∧ Z.2.2.1 a = none)) ∧ (c = 3 → (ij_okB G Z gw y a b ∧ Cond.instanceMethod (Z.1 a) ∈ gw ∧ (Z.1 a).name = "<init>" ∧ Z.2.2.1 a = none ∧ ∃ hst, ((Z.1 y).cls, idx, Z.1 a, hst) ∈ n2))
  | _ => True
def ij_okE (G : ij_G) (Z : ij_Z) (X : ij_Cx) (gw : List Cond) (n1 : ij_N1) (n2 : ij_N2) (sr : ij_S1) (y : Nat) (q : Nat × ij_E) : Prop :=
  decode (Z.2.1 y) q.1 = .ok (q.2.1, q.2.2.1) ∧ (q.2.2.1 = ij_len q.2.1 ∨ ∃ d lo hi os, q.2.1 = .tableswitch d lo hi os) ∧ ij_jok q.1 q.2.1 = true
  ∧ ij_okR X gw n1 sr (Z.1 y).cls (ij_room Z y 0 0) q.2.1 q.2.2.2.1 q.2.2.2.2.1 ∧ ij_okW X gw (Z.1 y).cls ((Z.1 y).name = "<init>") (ij_room Z y 0 0) q.2.1 q.2.2.2.1 q.2.2.2.2.1 ∧ ij_okC G Z X gw n2 y q.2.1 q.2.2.2.1 q.2.2.2.2.1 q.2.2.2.2.2
def ij_Ok (G : ij_G) (Z : ij_Z) (X : ij_Cx) (ty0 : Nat → Nat → FieldType) (gw : List Cond) (n1 : ij_N1) (n2 : ij_N2) (sr : ij_S1) (cl : List vw_C) : Prop :=
  (∀ ci, ci < 12 → cl[ci]? = some (X.1 ci, X.2.1 ci, X.2.2 ci)) ∧ (∀ ci, ci < 12 → ∀ w ∈ u_ws (X.1 ci) (X.2.1 ci) (X.2.2 ci), w ∈ gw)
  ∧ (∀ ci, ci < 12 → ∀ k, k < X.2.2 ci → parseFieldDescriptor (X.2.1 ci k).2.2.1 = some (ty0 ci k)) ∧ (∀ ci, ci < 12 → ∀ k, k < X.2.2 ci → ij_tk (ty0 ci k) = G.2.2.2 ci k) ∧ (∀ ci, ci < 12 → ∀ k, k < X.2.2 ci → G.2.2.2 ci k < 4)
  ∧ (∀ ci, ci < 12 → ∀ a, a < X.2.2 ci → ∀ b, b < X.2.2 ci → a ≠ b → (X.2.1 ci a).2.1 ≠ (X.2.1 ci b).2.1) ∧ (X.1 8 = "ScaleForge$Tray" ∧ X.1 4 = "ScaleForge$Scale" ∧ X.1 6 = "ScaleForge$Studies")
  ∧ (∀ w ∈ gw, (w.onTables && w.keeps) = true ∨ ∃ ty, w = .arrayClass ty)
  ∧ ∀ y, y < Z.2.2.2.2.2 → (plainFor (Z.1 y) = true ∧ ij_rok (Z.2.2.1 y) (G.2.2.1 y) ∧ ∀ q ∈ G.1 y, ij_okE G Z X gw n1 n2 sr y q)
def ij_wsA (G : ij_G) (Z : ij_Z) (gw : List Cond) (y : Nat) : List Cond := Cond.code (Z.1 y) (Z.2.1 y) (G.2.1 y) (Z.2.2.1 y) :: gw
def ij_Wd (B : ij_B) (D : va_G) (cl : List vw_C) (aC : Nat → ClassId) (n1 : ij_N1) (n2 : ij_N2) (sr : ij_S1) (xt : ij_X) (tt : Nat → Nat → Nat) (h : ij_H) (U : State) : Prop :=
  U.heap.size = B.1 + h.1.length ∧ va_P D cl (ij_ws B tt aC h) U.heap ∧ ij_Ev B D cl aC n1 n2 sr xt U
def ij_Q (B : ij_B) (D : va_G) (cl : List vw_C) (aC : Nat → ClassId) (tt : Nat → Nat → Nat) (r : Option Value) (h' : ij_H) : Array Value → State → Outcome → State → Prop := fun _ st o t =>
  o = .returned (r.map (ij_cv B)) ∧ va_P D cl (ij_ws B tt aC h') t.heap ∧ va_F (ij_A B) st t
def ij_Walk (l : Launch) (G : ij_G) (Z : ij_Z) (gw : List Cond) (n1 : ij_N1) (n2 : ij_N2) (sr : ij_S1) (cl : List vw_C) (B : ij_B) (D : va_G) (aC : Nat → ClassId) (xt : ij_X) (n : Nat) : Prop :=
  ∀ (y pc : Nat) (L : ij_L) (st : List Value) (h : ij_H) (r : Option Value) (h' : ij_H), y < Z.2.2.2.2.2 → ij_run G xt n y pc L st h = some (r, h') → (h.1.length ≤ h'.1.length ∧ ij_sl h ≤ ij_sl h') ∧
  ∀ (p : Program) (e : Env) (R : Room) (s : State) (m : MethodId) (args : Array Value) (below : List Frame) (meth : Method) (c : Code) (H : Heap) (locs : List Loc) (cells slots mc ms : Nat) (Q : State → Prop) (ls : Array Slot),
    p.tables.exec = Jvm.exec → c.code = Z.2.1 y → c.maxLocals = G.2.1 y → s.vm.findClass (Z.1 y).cls = some m.cls → (∀ w ∈ gw, w.before args s = true) → meth.name = (Z.1 y).name → Z.2.2.2.1 y ≤ R.frames → Z.2.2.2.2.1 y ≤ R.locals → ij_Ev B D cl aC n1 n2 sr xt s → B.1 ≤ s.heap.size →
    va_P D cl (ij_ws B G.2.2.2 aC h) H → va_S (ij_A B) s.heap H locs → ij_LH B ls (G.2.1 y) L → s.heap.size + cells = B.1 + h.1.length → mc + h.1.length = cells + h'.1.length → ms + ij_sl h = slots + ij_sl h' → mc ≤ R.cells → ms ≤ R.slots →
    (∀ (i : Instr) (pc : Nat) (ls : Array Slot) (st : List Value) (H : Heap) (locs : List Loc), decode (Z.2.1 y) pc = .ok (i, 1) → ij_rI (G.2.2.1 y) i st = some r → va_P D cl (ij_ws B G.2.2.2 aC h') H → va_S (ij_A B) s.heap H locs → W p l e R s m args below meth c H locs mc ms Q (F0 m pc ls (st.map (ij_cv B)))) →
    W p l e R s m args below meth c H locs cells slots Q (F0 m pc ls (st.map (ij_cv B)))
theorem ij_okR_mono {X : ij_Cx} {gw : List Cond} {n1 : ij_N1} {sr : ij_S1} {own : String} {R0 R : Room} {i : Instr} {a b : Nat} (h : ij_okR X gw n1 sr own R0 i a b) (h1 : R0.frames ≤ R.frames) (h2 : R0.locals ≤ R.locals) : ij_okR X gw n1 sr own R i a b := by
  unfold ij_okR at h ⊢
  cases i <;> first | exact h | (intro ha; obtain ⟨g1, g2, g3, g4, g5⟩ := h ha; exact ⟨g1, g2, g3, Nat.le_trans g4 h1, Nat.le_trans g5 h2⟩)
theorem ij_okW_mono {X : ij_Cx} {gw : List Cond} {own : String} {ini : Prop} {R0 R : Room} {i : Instr} {a b : Nat} (h : ij_okW X gw own ini R0 i a b) (h1 : R0.frames ≤ R.frames) (h2 : R0.locals ≤ R.locals) : ij_okW X gw own ini R i a b := by
  unfold ij_okW at h ⊢
  cases i <;> first | exact h | (intro ha; obtain ⟨g1, g2, g3, g4, g5, g6⟩ := h ha; exact ⟨g1, g2, g3, g4, Nat.le_trans g5 h1, Nat.le_trans g6 h2⟩)
theorem ij_lookup_mem {k : Nat} {v : ij_E} : ∀ {l : List (Nat × ij_E)}, l.lookup k = some v → (k, v) ∈ l
  | [], h => by cases h
  | (a, b) :: t, h => by
    rw [List.lookup_cons] at h
    split at h
    · next e =>
      cases h
      rw [show k = a from by simpa using e]
      exact List.mem_cons_self
    · exact List.mem_cons_of_mem _ (ij_lookup_mem h)
theorem ij_put_len {t : Nat} {mm m' : ij_M} {j k : Nat} {v : Value} (_ : ij_put t mm j k v = some m') : True := trivial
set_option maxHeartbeats 2000000 in
theorem ij_hW_mono {tt : Nat → Nat → Nat} {xt : ij_X} {i : Instr} {a b : Nat} {st st' : List Value} {h h' : ij_H} (hr : ij_hW tt xt i a b st h = some (st', h')) : h.1.length ≤ h'.1.length ∧ ij_sl h ≤ ij_sl h' := by
  have hnew : ∀ kd n, h.1.length ≤ (ij_new h kd n).1.length ∧ ij_sl h ≤ ij_sl (ij_new h kd n) := by
    intro kd n
    rw [ij_sl_new]
    simp [ij_new]
  have hsame : ∀ m', h.1.length ≤ ((h.1, m') : ij_H).1.length ∧ ij_sl h ≤ ij_sl (h.1, m') := fun m' => ⟨Nat.le_refl _, Nat.le_refl _⟩
  unfold ij_hW at hr
  repeat' split at hr
  all_goals first
    | (cases hr; done)
    | (cases hr; exact hsame _)
    | (cases hr; exact hnew _ _)
    | (obtain ⟨m', -, e0⟩ := Option.map_eq_some_iff.mp hr; cases e0; exact hsame _)
/-- as Met.ofW, for a method that no native stands for -/
theorem ij_ofW {l : Launch} {y : MethodName} {ws ws' : List Cond} {rm : Room} {Pc : Array Value → State → Prop} {Qc : Array Value → State → Outcome → State → Prop} {mc ms : Nat} {free : Addr → Prop} {cc : ByteArray} {maxL : Nat} {ret : Option FieldType} (hy : plainFor y = true) (hw : ws = Cond.code y cc maxL ret :: ws')
    (body : ∀ p e s m args below meth c s₁, BodyLoose p l y (headSpec ws rm) cc maxL ret e s m args below meth c s₁ → c.maxLocals = maxL → Pc args s → W p l e (headSpec ws rm).room s m args below meth c s.heap [] 0 0 (MQ below Qc args s mc ms free) (entryFrame m args maxL)) : Met l y ws rm Pc Qc mc ms free := by
  refine MetFree.of_bodySF (code := cc) (maxLocals := maxL) (ret := ret) hy (fun args s m h hn => ?_) (fun p e s m args below meth c s₁ Bd hml hP _ => ?_)
  · obtain ⟨meth, c, h1, h2, h3, h4, h5, h6, -, -⟩ := Cond.code_spec hn (atoms_spec (ws := ws) h _ (by rw [hw]; exact List.mem_cons_self))
    exact ⟨meth, c, h1, h2, h3, h4, h5, h6⟩
  · obtain ⟨t, a1, o, b1, b2, b3⟩ := body p e s m args below meth c s₁ Bd hml hP s₁ (by rw [Bd.state]; rfl) (Stand.of_body Bd)
    exact ⟨t, o, a1, b1, b2, ⟨b3.1, b3.2⟩⟩
end
section
/-! The theorem: by the number of steps. -/
section IJ
variable {l : Launch} {G : ij_G} {Z : ij_Z} {X : ij_Cx} {ty0 : Nat → Nat → FieldType} {gw : List Cond} {n1 : ij_N1} {n2 : ij_N2} {sr : ij_S1} {cl : List vw_C} {B : ij_B} {D : va_G} {aC : Nat → ClassId} {xt : ij_X}
theorem ij_ent_LH (hB : B.2.2.category = 1) {nL : Nat} {as : List Value} {l0 : ij_L} (h : ij_entry nL as = some l0) : ij_LH B ((lg_sl (as.map (ij_cv B)) ++ List.replicate (nL - (lg_sl (as.map (ij_cv B))).length) Slot.unset).toArray) nL l0 := by
  unfold ij_entry at h
  split at h
  · next hle =>
    cases h
    have hl := lv_entry (as.map (ij_cv B)) (n := nL) (by rw [ij_ent_len B hB]; exact hle)
    refine ⟨by simp; omega, hl.1, hl.2.1, fun q hq => hl.2.2 q ?_⟩
    obtain ⟨v, hv, e⟩ := ij_al_mem.mp hq
    by_cases hi : q.1 < (ij_ent as).length
    · rw [List.getElem?_append_left hi] at hv
      have := ij_ent_args B hB as 0 q.1 v hv
      rw [Nat.zero_add] at this
      have e2 : q = (q.1, ij_cv B v) := by rw [← e]
      rw [e2]
      exact this
    · rw [List.getElem?_append_right (by omega), List.getElem?_replicate] at hv
      split at hv <;> cases hv
  · cases h
theorem ij_met (hok : ij_Ok G Z X ty0 gw n1 n2 sr cl) (hB : B.2.2.category = 1) {n : Nat} (hw : ij_Walk l G Z gw n1 n2 sr cl B D aC xt n) {a : Nat} {as : List Value} {l0 : ij_L} {h h' : ij_H} {r : Option Value} (ha : a < Z.2.2.2.2.2) (hl0 : ij_entry (G.2.1 a) as = some l0) (hr : ij_run G xt n a 0 l0 [] h = some (r, h')) {mc ms : Nat} (hmc : mc + h.1.length = h'.1.length) (hms : ms + ij_sl h = ij_sl h') :
    Met l (Z.1 a) (ij_wsA G Z gw a) (ij_room Z a mc ms) (va_Pc (as.map (ij_cv B)) (ij_Wd B D cl aC n1 n2 sr xt G.2.2.2 h)) (ij_Q B D cl aC G.2.2.2 r h') mc ms (ij_A B) := by
  obtain ⟨-, -, -, -, -, -, -, -, hmeth⟩ := hok
  obtain ⟨hplain, hrok, -⟩ := hmeth a ha
  refine ij_ofW (cc := Z.2.1 a) (maxL := G.2.1 a) (ret := Z.2.2.1 a) hplain rfl ?_
  intro p e s m args below meth c s₁ Bd hml hv
  obtain ⟨rfl, hsz, hP, hE⟩ := hv
  have hts := atoms_spec (ws := ij_wsA G Z gw a) Bd.pre
  rw [lg_entry_eq]
  obtain ⟨-, hW⟩ := hw a 0 l0 [] h r h' ha hr
  refine hW p e _ s m _ below meth c s.heap [] 0 0 mc ms _ _ Bd.exec Bd.bytes hml (findClass_of_methodNamed Bd.named) (fun w hw => hts w (List.mem_cons_of_mem _ hw)) (name_of_methodNamed Bd.named Bd.method).1 (Nat.le_refl _) (Nat.le_refl _) hE (by omega) hP va_S.rf (ij_ent_LH hB hl0) (by omega) (by omega) (by omega) (Nat.le_refl _) (Nat.le_refl _) ?_
  intro i pc ls st H locs hd hri hP' hS'
  have hret := Bd.returns
  have hlocks := Bd.notSynchronized
  have hq : ∀ (v : Option Value), v = r.map (ij_cv B) → ∀ t : State, t.heap = H → s.WarmedH t.vm → ij_Q B D cl aC G.2.2.2 r h' (as.map (ij_cv B)).toArray s (.returned v) t := fun v hv t ht _ => ⟨by rw [hv], by rw [ht]; exact hP', hS'.F ht⟩
  unfold ij_rI at hri
  split at hri
  · split at hri
    · next hk =>
      cases hri
      rw [hk] at hrok
      exact W.vret Bd.exec Bd.bytes (hret.trans hrok) (hq none rfl) hS'.2.2 hd
    · cases hri
  · split at hri
    · next x =>
      split at hri
      · next hk =>
        cases hri
        rw [hk] at hrok
        exact W.iret Bd.exec Bd.bytes (hret.trans hrok) (hq _ rfl) hS'.2.2 hd
      · next hk =>
        split at hri
        · next hx =>
          cases hri
          rw [hk] at hrok
          exact W.zret Bd.exec Bd.bytes (hret.trans hrok) (by rcases hx with rfl | rfl <;> decide) (hq _ rfl) hS'.2.2 hd
        · cases hri
      · next hk =>
        split at hri
        · next hx =>
          cases hri
          rw [hk] at hrok
          exact W.zret Bd.exec Bd.bytes (hret.trans hrok) hx (hq _ rfl) hS'.2.2 hd
        · cases hri
      · next hk =>
        split at hri
        · next hx =>
          cases hri
          rw [hk] at hrok
          exact W.zret Bd.exec Bd.bytes (hret.trans hrok) hx (hq _ rfl) hS'.2.2 hd
        · cases hri
      · cases hri
    · cases hri
  · split at hri
    · next hk =>
      cases hri
      rw [hk] at hrok
      exact W.lret Bd.exec Bd.bytes (hret.trans hrok) (hq _ rfl) hS'.2.2 hd
    · cases hri
  · split at hri
    · next x hk =>
      split at hri
      · cases hri
      · next hx =>
        cases hri
        rw [hk] at hrok
        obtain ⟨t, ht, htt⟩ := hrok
        rw [List.map_cons, ij_cv_ref B hx]
        exact W.aret (v := .ref (ij_ad B x)) Bd.exec Bd.bytes (hret.trans ht) htt (Or.inr ⟨_, rfl⟩) (hq _ (by show _ = some (ij_cv B (.ref x)); rw [ij_cv_ref B hx])) hS'.2.2 hd
    · next hk =>
      cases hri
      rw [hk] at hrok
      obtain ⟨t, ht, htt⟩ := hrok
      exact W.aret (v := .null) Bd.exec Bd.bytes (hret.trans ht) htt (Or.inl rfl) (hq _ rfl) hS'.2.2 hd
    · cases hri
  · cases hri
end IJ
section IJ2
variable {p : Program} {l : Launch} {e : Env} {R : Room} {s : State} {m : MethodId} {args : Array Value} {below : List Frame} {meth : Method} {c : Code} {H : Heap} {locs : List Loc} {cells slots : Nat} {Q : State → Prop}
variable {pc : Nat} {ls : Array Slot} {B : ij_B} {D : va_G} {cl : List vw_C} {aC : Nat → ClassId} {tt : Nat → Nat → Nat} {n1 : ij_N1} {n2 : ij_N2} {sr : ij_S1} {xt : ij_X}
theorem ij_after {mc1 ms1 : Nat} {st0 rest : List Value} {r1 : Option Value} {h1 : ij_H} {a0 : Array Value} (hrun : va_Run p l e R s m args below meth c H locs cells slots mc1 ms1 (F0 m pc ls st0) (rest.map (ij_cv B)) (ij_Q B D cl aC tt r1 h1 a0) (ij_A B)) (hS : va_S (ij_A B) s.heap H locs)
    (kk : ∀ (H1 : Heap) (locs1 : List Loc), va_P D cl (ij_ws B tt aC h1) H1 → va_S (ij_A B) s.heap H1 locs1 → W p l e R s m args below meth c H1 locs1 (cells + mc1) (slots + ms1) Q (F0 m (pc + 3) ls ((r1.toList ++ rest).map (ij_cv B)))) : W p l e R s m args below meth c H locs cells slots Q (F0 m pc ls st0) := by
  intro T hT Y
  obtain ⟨v, st₀, t, T', L, h0, Y', hL, e1, e2, ⟨hv, hp, hz, hk⟩, st⟩ := hrun T hT Y
  cases hv
  rw [h0] at hz hk
  have hS1 : va_S (ij_A B) s.heap T'.heap (locs ++ L) := by
    refine ⟨Nat.le_trans hS.1 (by rw [e1]; exact hz), fun q g1 g2 => ?_, fun q hq => ?_⟩
    · rw [e1, hk q (Nat.lt_of_lt_of_le g1 hS.1) g2]
      exact hS.2.1 q g1 g2
    · rcases List.mem_append.mp hq with g | g
      · exact hS.2.2 q g
      · exact hL q g
  obtain ⟨t2, a1, b1⟩ := kk T'.heap (locs ++ L) (by rw [e1]; exact hp) hS1 T' rfl Y'
  refine ⟨t2, st t2 ?_, b1⟩
  have e3 : (r1.map (ij_cv B)).toList ++ rest.map (ij_cv B) = (r1.toList ++ rest).map (ij_cv B) := by cases r1 <;> rfl
  rw [e3]
  exact a1
theorem ij_low {h : ij_H} (hP : va_P D cl (ij_ws B tt aC h) H) (hS : va_S (ij_A B) s.heap H locs) (hbase : B.1 ≤ s.heap.size) : B.1 + h.1.length ≤ H.size := by
  cases hh : h.1.length with
  | zero => exact Nat.le_trans hbase hS.1
  | succ k =>
    obtain ⟨sh, hsh⟩ : ∃ sh, h.1[k]? = some sh := ⟨_, List.getElem?_eq_getElem (by omega)⟩
    have := (hP k _ (ij_ws_at hsh)).lt
    dsimp only at this
    omega
theorem ij_blind (as : List Value) (h : ij_H) : FrameBlind (va_Pc as (ij_Wd B D cl aC n1 n2 sr xt tt h)) := by
  intro a U g mk q
  obtain ⟨q0, q1, q2, q3⟩ := q
  exact ⟨q0, q1, q2, q3.move (fun _ _ _ => rfl) (State.WarmedH.refl U)⟩
theorem ij_pre {as : List Value} {h : ij_H} (hE : ij_Ev B D cl aC n1 n2 sr xt s) (hP : va_P D cl (ij_ws B tt aC h) H) (hS : va_S (ij_A B) s.heap H locs) (hbase : B.1 ≤ s.heap.size) (hs : H.size ≤ s.heap.size + cells) (hsz : s.heap.size + cells = B.1 + h.1.length) : ∀ U : State, U.heap = H → s.WarmedH U.vm → va_Pc as (ij_Wd B D cl aC n1 n2 sr xt tt h) as.toArray U := by
  intro U hU hW
  have := ij_low hP hS hbase
  exact ⟨rfl, by rw [hU]; omega, by rw [hU]; exact hP, hE.move (fun a g1 g2 => by rw [hU]; exact hS.2.1 a g1 g2) hW⟩
end IJ2
end
section
/-! All runs: by induction on the number of steps. -/
theorem ij_split {st : List Value} {n : Nat} {v : Value} (h : st[n]? = some v) : st = st.take n ++ v :: st.drop (n + 1) ∧ (st.take (n + 1)).reverse = v :: (st.take n).reverse ∧ (st.take n).length = n := by
  obtain ⟨hn, he⟩ := List.getElem?_eq_some_iff.mp h
  refine ⟨?_, ?_, by simp; omega⟩
  · rw [← he, List.drop_eq_getElem_cons hn |>.symm, List.take_append_drop]
  · rw [List.take_succ_eq_append_getElem hn, he]
    simp
section IJ
variable {l : Launch} {G : ij_G} {Z : ij_Z} {X : ij_Cx} {ty0 : Nat → Nat → FieldType} {gw : List Cond} {n1 : ij_N1} {n2 : ij_N2} {sr : ij_S1} {cl : List vw_C} {B : ij_B} {D : va_G} {aC : Nat → ClassId} {xt : ij_X}
theorem ij_good (hok : ij_Ok G Z X ty0 gw n1 n2 sr cl) {a : Nat} (hc : Cond.code (Z.1 a) (Z.2.1 a) (G.2.1 a) (Z.2.2.1 a) ∈ gw) : GoodIn gw (ij_wsA G Z gw a) := by
  obtain ⟨-, -, -, -, -, -, -, hg, -⟩ := hok
  intro w hw
  rcases List.mem_cons.mp hw with rfl | hw
  · exact ⟨hc, hg _ hc⟩
  · exact ⟨hw, hg _ hw⟩
/-- behind the choice of the callee: what its run gives -/
theorem ij_step_call (hok : ij_Ok G Z X ty0 gw n1 n2 sr cl) (hB : B.2.2.category = 1) {n : Nat} (ih : ij_Walk l G Z gw n1 n2 sr cl B D aC xt n) {y pc : Nat} {L : ij_L} {st as rest : List Value} {h h' : ij_H} {r : Option Value} (hy : y < Z.2.2.2.2.2) {a b : Nat} {l0 : ij_L} {z : Option Value × ij_H} (hl0 : ij_entry (G.2.1 a) as = some l0) (hz : ij_run G xt n a 0 l0 [] h = some z) (hr : ij_run G xt n y (pc + 3) L (z.1.toList ++ rest) z.2 = some (r, h')) (hb : ij_okB G Z gw y a b)
    (hrun : ∀ (p : Program) (e : Env) (R : Room) (s : State) (m : MethodId) (args : Array Value) (below : List Frame) (meth : Method) (c : Code) (H : Heap) (locs : List Loc) (cells slots mc1 ms1 : Nat) (ls : Array Slot), p.tables.exec = Jvm.exec → c.code = Z.2.1 y → c.maxLocals = G.2.1 y → s.vm.findClass (Z.1 y).cls = some m.cls → (∀ w ∈ gw, w.before args s = true) → ls.size = G.2.1 y → ij_Ev B D cl aC n1 n2 sr xt s → va_P D cl (ij_ws B G.2.2.2 aC h) H → va_S (ij_A B) s.heap H locs →
      Met l (Z.1 a) (ij_wsA G Z gw a) (ij_room Z a mc1 ms1) (va_Pc (as.map (ij_cv B)) (ij_Wd B D cl aC n1 n2 sr xt G.2.2.2 h)) (ij_Q B D cl aC G.2.2.2 z.1 z.2) mc1 ms1 (ij_A B) → ((ij_room Z a mc1 ms1).frames + 1 ≤ R.frames ∧ 8 + (G.2.1 a + 11) + (ij_room Z a mc1 ms1).locals ≤ R.locals) → cells + mc1 ≤ R.cells ∧ slots + ms1 ≤ R.slots →
      (∀ U : State, U.heap = H → s.WarmedH U.vm → va_Pc (as.map (ij_cv B)) (ij_Wd B D cl aC n1 n2 sr xt G.2.2.2 h) (as.map (ij_cv B)).toArray U) → va_Run p l e R s m args below meth c H locs cells slots mc1 ms1 (F0 m pc ls (st.map (ij_cv B))) (rest.map (ij_cv B)) (ij_Q B D cl aC G.2.2.2 z.1 z.2 (as.map (ij_cv B)).toArray) (ij_A B)) :
    (h.1.length ≤ h'.1.length ∧ ij_sl h ≤ ij_sl h') ∧
  ∀ (p : Program) (e : Env) (R : Room) (s : State) (m : MethodId) (args : Array Value) (below : List Frame) (meth : Method) (c : Code) (H : Heap) (locs : List Loc) (cells slots mc ms : Nat) (Q : State → Prop) (ls : Array Slot),
    p.tables.exec = Jvm.exec → c.code = Z.2.1 y → c.maxLocals = G.2.1 y → s.vm.findClass (Z.1 y).cls = some m.cls → (∀ w ∈ gw, w.before args s = true) → meth.name = (Z.1 y).name → Z.2.2.2.1 y ≤ R.frames → Z.2.2.2.2.1 y ≤ R.locals → ij_Ev B D cl aC n1 n2 sr xt s → B.1 ≤ s.heap.size →
    va_P D cl (ij_ws B G.2.2.2 aC h) H → va_S (ij_A B) s.heap H locs → ij_LH B ls (G.2.1 y) L → s.heap.size + cells = B.1 + h.1.length → mc + h.1.length = cells + h'.1.length → ms + ij_sl h = slots + ij_sl h' → mc ≤ R.cells → ms ≤ R.slots →
    (∀ (i : Instr) (pc : Nat) (ls : Array Slot) (st : List Value) (H : Heap) (locs : List Loc), decode (Z.2.1 y) pc = .ok (i, 1) → ij_rI (G.2.2.1 y) i st = some r → va_P D cl (ij_ws B G.2.2.2 aC h') H → va_S (ij_A B) s.heap H locs → W p l e R s m args below meth c H locs mc ms Q (F0 m pc ls (st.map (ij_cv B)))) →
    W p l e R s m args below meth c H locs cells slots Q (F0 m pc ls (st.map (ij_cv B))) := by
  obtain ⟨g1, g2, g3, g4, g5⟩ := hb
  obtain ⟨mono1, -⟩ := ih a 0 l0 [] h z.1 z.2 g1 hz
  obtain ⟨mono, hW⟩ := ih y (pc + 3) L _ z.2 r h' hy hr
  refine ⟨⟨Nat.le_trans mono1.1 mono.1, Nat.le_trans mono1.2 mono.2⟩, ?_⟩
  intro p e R s m args below meth c H locs cells slots mc ms Q ls hx hb hml hown hts hname hfr hlo hE hbase hP hS hLH hsz hmc hms hrc hrs hret
  refine ij_W_size (fun hs => ?_)
  have hM := ij_met hok hB ih g1 hl0 hz (mc := z.2.1.length - h.1.length) (ms := ij_sl z.2 - ij_sl h) (by omega) (by omega)
  refine ij_after (hrun p e R s m args below meth c H locs cells slots _ _ ls hx hb hml hown hts hLH.2.1 hE hP hS hM ⟨Nat.le_trans g5.1 hfr, Nat.le_trans g5.2 hlo⟩ ⟨by omega, by omega⟩ (ij_pre hE hP hS hbase hs hsz)) hS (fun H1 locs1 hP1 hS1 => ?_)
  exact hW p e R s m args below meth c H1 locs1 _ _ mc ms Q ls hx hb hml hown hts hname hfr hlo hE hbase hP1 hS1 hLH (by omega) (by omega) (by omega) hrc hrs hret
set_option maxHeartbeats 4000000 in
theorem ij_walk (hok : ij_Ok G Z X ty0 gw n1 n2 sr cl) (hB : B.2.2.category = 1) : ∀ n, ij_Walk l G Z gw n1 n2 sr cl B D aC xt n := by
  intro n
  induction n with
  | zero => intro y pc L st h r h' hy hr; rw [ij_run] at hr; cases hr
  | succ n ih =>
    intro y pc L st h r h' hy hr
    obtain ⟨hcl, hcw, hty, htk, ht4, hnm, hcn, hgood, hmeth⟩ := id hok
    rw [ij_run] at hr
    split at hr
    · cases hr
    · next i len a b c hlk =>
      obtain ⟨hdec, hlen, hjok, hokR, hokW, hokC⟩ := (hmeth y hy).2.2 _ (ij_lookup_mem hlk)
      dsimp only at hdec hlen hjok hokR hokW hokC
      split at hr
      · next q hq =>
        have hl : len = ij_len i := hlen.resolve_right (fun ⟨d, lo, hi, os, e⟩ => by subst e; cases hq)
        subst hl
        obtain ⟨mono, hW⟩ := ih y _ q.1 q.2 h r h' hy hr
        refine ⟨mono, ?_⟩
        intro p e R s m args below meth c H locs cells slots mc ms Q ls hx hb hml hown hts hname hfr hlo hE hbase hP hS hLH hsz hmc hms hrc hrs hret
        exact ij_sL_ok hB hx hb hdec hLH hq (fun ls' hL' => hW p e R s m args below meth c H locs cells slots mc ms Q ls' hx hb hml hown hts hname hfr hlo hE hbase hP hS hL' hsz hmc hms hrc hrs hret)
      · split at hr
        · next q hq =>
          have hl : len = ij_len i := hlen.resolve_right (fun ⟨d, lo, hi, os, e⟩ => by subst e; unfold ij_sA at hq; split at hq <;> cases hq)
          subst hl
          obtain ⟨mono, hW⟩ := ih y _ L q h r h' hy hr
          refine ⟨mono, ?_⟩
          intro p e R s m args below meth c H locs cells slots mc ms Q ls hx hb hml hown hts hname hfr hlo hE hbase hP hS hLH hsz hmc hms hrc hrs hret
          exact ij_sA_ok hx hb hdec hq (hW p e R s m args below meth c H locs cells slots mc ms Q ls hx hb hml hown hts hname hfr hlo hE hbase hP hS hLH hsz hmc hms hrc hrs hret)
        · split at hr
          · next q hq =>
            obtain ⟨mono, hW⟩ := ih y _ L q.2 h r h' hy hr
            refine ⟨mono, ?_⟩
            intro p e R s m args below meth c H locs cells slots mc ms Q ls hx hb hml hown hts hname hfr hlo hE hbase hP hS hLH hsz hmc hms hrc hrs hret
            exact ij_bI_ok hx hb hdec hlen hjok hq (hW p e R s m args below meth c H locs cells slots mc ms Q ls hx hb hml hown hts hname hfr hlo hE hbase hP hS hLH hsz hmc hms hrc hrs hret)
          · split at hr
            · next q hq =>
              have hl : len = ij_len i := hlen.resolve_right (fun ⟨d, lo, hi, os, e⟩ => by subst e; cases hq)
              subst hl
              obtain ⟨mono, hW⟩ := ih y _ L q h r h' hy hr
              refine ⟨mono, ?_⟩
              intro p e R s m args below meth c H locs cells slots mc ms Q ls hx hb hml hown hts hname hfr hlo hE hbase hP hS hLH hsz hmc hms hrc hrs hret
              exact ij_hR_ok hB hcl hcw hx hb hdec hown hts hE hP hS (hLH.2.1.trans hml.symm) (ij_okR_mono hokR hfr hlo) hq (hW p e R s m args below meth c H locs cells slots mc ms Q ls hx hb hml hown hts hname hfr hlo hE hbase hP hS hLH hsz hmc hms hrc hrs hret)
            · split at hr
              · next q hq =>
                have hl : len = ij_len i := hlen.resolve_right (fun ⟨d, lo, hi, os, e⟩ => by subst e; cases hq)
                subst hl
                obtain ⟨mono, hW⟩ := ih y _ L q h r h' hy hr
                refine ⟨mono, ?_⟩
                intro p e R s m args below meth c H locs cells slots mc ms Q ls hx hb hml hown hts hname hfr hlo hE hbase hP hS hLH hsz hmc hms hrc hrs hret
                exact ij_sB_ok hB hx hb hdec hq (hW p e R s m args below meth c H locs cells slots mc ms Q ls hx hb hml hown hts hname hfr hlo hE hbase hP hS hLH hsz hmc hms hrc hrs hret)
              · split at hr
                · next q hq =>
                  have hl : len = ij_len i := hlen.resolve_right (fun ⟨d, lo, hi, os, e⟩ => by subst e; cases hq)
                  subst hl
                  obtain ⟨mono, hW⟩ := ih y _ L q.1 q.2 r h' hy hr
                  have mono1 := ij_hW_mono hq
                  refine ⟨⟨Nat.le_trans mono1.1 mono.1, Nat.le_trans mono1.2 mono.2⟩, ?_⟩
                  intro p e R s m args below meth c H locs cells slots mc ms Q ls hx hb hml hown hts hname hfr hlo hE hbase hP hS hLH hsz hmc hms hrc hrs hret
                  refine ij_hW_ok hB hcl hcw hty htk ht4 hnm hcn hx hb hdec hown hts hE hP hS (hLH.2.1.trans hml.symm) (fun hi => hname.trans hi) hsz hbase ⟨by omega, by omega⟩ (ij_okW_mono hokW hfr hlo) hq ?_
                  intro H1 locs1 cells1 slots1 hc1 hs1 hP1 hS1
                  exact hW p e R s m args below meth c H1 locs1 cells1 slots1 mc ms Q ls hx hb hml hown hts hname hfr hlo hE hbase hP1 hS1 hLH (by omega) (by omega) (by omega) hrc hrs hret
                · split at hr
                  · next q hq =>
                    cases hr
                    refine ⟨⟨Nat.le_refl _, Nat.le_refl _⟩, ?_⟩
                    intro p e R s m args below meth c H locs cells slots mc ms Q ls hx hb hml hown hts hname hfr hlo hE hbase hP hS hLH hsz hmc hms hrc hrs hret
                    have e1 : mc = cells := by omega
                    have e2 : ms = slots := by omega
                    subst e1
                    subst e2
                    have hl : len = 1 := by
                      rcases hlen with rfl | ⟨d, lo, hi, os, e⟩
                      · cases i <;> first | rfl | cases hq
                      · subst e; cases hq
                    subst hl
                    exact hret i pc ls st H locs hdec hq hP hS
                  · split at hr
                    · next q hq =>
                      split at hr
                      · next l0 hl0 =>
                        split at hr
                        · next z hz =>
                          unfold ij_cI at hq
                          split at hq
                          · -- virtual
                            next idx =>
                            split at hq
                            · next j hj =>
                              split at hq
                              · next hc =>
                                cases hq
                                obtain ⟨hB1, hl1, hi1, hs1, hc1⟩ := hokC (by rcases hc.1 with q | q <;> omega)
                                have hlen3 : len = 3 := by
                                  rcases hlen with q | ⟨_, _, _, _, e⟩
                                  · exact q
                                  · cases e
                                subst hlen3
                                obtain ⟨sp1, sp2, sp3⟩ := ij_split hj
                                refine ij_step_call hok hB ih hy hl0 hz hr hB1 ?_
                                intro p e R s m args below meth c' H locs cells slots mc1 ms1 ls hx hb hml hown hts hls hE hP hS hM hroom hf hpre
                                have hjn : ¬ j = 1999999 := by
                                  rcases hc.1 with q | q
                                  · exact fun e0 => absurd (e0 ▸ q.2.2.1) (by decide)
                                  · exact fun e0 => absurd (e0 ▸ q.2.2) (by decide)
                                have eas : ((st.take (b + 1)).reverse).map (ij_cv B) = .ref (ij_ad B j) :: ((st.take b).reverse).map (ij_cv B) := by
                                  rw [sp2, List.map_cons, ij_cv_ref B hjn]
                                rw [eas] at hM hpre ⊢
                                refine va_runV (C := (Z.1 a).cls) (As := ((st.take b).reverse).map (ij_cv B)) ⟨hx, hb, hml, hown, hts⟩ hM ⟨callB_of b hts (ij_good hok hB1.2.2.1) rfl rfl rfl (hts _ hB1.2.1) (hts _ hl1) hB1.2.2.2.1 hroom, hts _ hi1, hts _ hs1⟩ ⟨ij_blind _ _, ?_, hpre⟩ rfl (by simpa using sp3) hls ?_ (lv_room (by rw [ij_cv_sum B hB]; exact hc.2)) hdec hf
                                · rcases hc.1 with ⟨q1, q2, q3, q4⟩ | ⟨q1, q2, q3⟩
                                  · obtain ⟨sh, hsh, hfst⟩ := Option.map_eq_some_iff.mp q4
                                    have hw := ij_ws_at (B := B) (tt := G.2.2.2) (aC := aC) hsh
                                    obtain ⟨kd, nn⟩ := sh
                                    dsimp only at hfst
                                    subst hfst
                                    rw [show ij_cell B G.2.2.2 aC h.2 j (c - 10, nn) = .inr (c - 10, (List.range nn).map (fun k => ij_fc B (G.2.2.2 (c - 10) k) h.2 j k)) from if_pos (by show c - 10 < 100; omega)] at hw
                                    have := va_recv hE.1 hP (hcl (c - 10) (by omega)) hw
                                    rw [ij_ad_lt B q3, hc1, if_neg (by omega)]
                                    exact this
                                  · obtain ⟨j, rfl⟩ : ∃ j' : Nat, j' = j := ⟨_, rfl⟩
                                    have q2 : (1000010 : Nat) ≤ j := q2
                                    have q3 : j < (1000034 : Nat) := q3
                                    obtain ⟨-, -, -, -, -, -, -, -, e11, -⟩ := hE
                                    obtain ⟨cell, f1, f2, f3, -⟩ := (e11 (j - 1000010) (by omega)).1.kept hS.2.1
                                    rw [show 1000010 + (j - 1000010) = j by omega] at f1
                                    rw [ij_ad_ge B (by omega), hc1, if_pos q1]
                                    exact ⟨cell, f1, f2, f3⟩
                                · show st.map (ij_cv B) = _
                                  conv => lhs; rw [sp1]
                                  rw [List.map_append, List.map_cons, ij_cv_ref B hjn, ← List.map_reverse, List.reverse_reverse]
                              · cases hq
                            · cases hq
                          · -- static
                            next idx =>
                            split at hq
                            · next hc =>
                              cases hq
                              have hlen3 : len = 3 := by
                                rcases hlen with q | ⟨_, _, _, _, e⟩
                                · exact q
                                · cases e
                              subst hlen3
                              have hst : ∀ (f : Value → Value), st.map f = ((st.take b).reverse.map f).reverse ++ (st.drop b).map f := by
                                intro f
                                rw [← List.map_reverse, List.reverse_reverse, ← List.map_append, List.take_append_drop]
                              have hln : ((st.take b).reverse.map (ij_cv B)).length = b := by simp; omega
                              rcases hc.1 with rfl | rfl
                              · obtain ⟨hB1, hl1, hs1⟩ := hokC.1 rfl
                                refine ij_step_call hok hB ih hy hl0 hz hr hB1 ?_
                                intro p e R s m args below meth c' H locs cells slots mc1 ms1 ls hx hb hml hown hts hls hE hP hS hM hroom hf hpre
                                exact va_runS ⟨hx, hb, hml, hown, hts⟩ hM ⟨callB_of b hts (ij_good hok hB1.2.2.1) rfl rfl rfl (hts _ hB1.2.1) (hts _ hl1) hB1.2.2.2.1 hroom, hts _ hs1⟩ ⟨ij_blind _ _, hpre⟩ rfl hln hls (hst _) (lv_room (by rw [ij_cv_sum B hB]; exact hc.2.2)) hdec hf
                              · obtain ⟨hB1, hs1, hst', hn2⟩ := hokC.2 rfl
                                refine ij_step_call hok hB ih hy hl0 hz hr hB1 ?_
                                intro p e R s m args below meth c' H locs cells slots mc1 ms1 ls hx hb hml hown hts hls hE hP hS hM hroom hf hpre
                                exact va_runSN ⟨hx, hb, hml, hown, hts⟩ hM ⟨va_cnB b hts (ij_good hok hB1.2.2.1) rfl rfl rfl (hE.2.2.1 _ hn2) (hts _ hB1.2.1) hB1.2.2.2.1 hroom, hts _ hs1, trivial⟩ ⟨ij_blind _ _, hpre⟩ rfl hln hls (hst _) (lv_room (by rw [ij_cv_sum B hB]; exact hc.2.2)) hdec hf
                            · cases hq
                          · -- special
                            next idx =>
                            split at hq
                            · next j hj =>
                              split at hq
                              · next hc =>
                                cases hq
                                have hlen3 : len = 3 := by
                                  rcases hlen with q | ⟨_, _, _, _, e⟩
                                  · exact q
                                  · cases e
                                subst hlen3
                                obtain ⟨sp1, sp2, sp3⟩ := ij_split hj
                                have hjn : ¬ j = 1999999 := fun e0 => absurd (e0 ▸ hc.2.1) (by decide)
                                have eas : ((st.take (b + 1)).reverse).map (ij_cv B) = .ref (ij_ad B j) :: ((st.take b).reverse).map (ij_cv B) := by
                                  rw [sp2, List.map_cons, ij_cv_ref B hjn]
                                have hstk : st.map (ij_cv B) = (((st.take b).reverse).map (ij_cv B)).reverse ++ .ref (ij_ad B j) :: (st.drop (b + 1)).map (ij_cv B) := by
                                  conv => lhs; rw [sp1]
                                  rw [List.map_append, List.map_cons, ij_cv_ref B hjn, ← List.map_reverse, List.reverse_reverse]
                                rcases hc.1 with rfl | rfl
                                · obtain ⟨hB1, hl1, hi1, hn1, ht1⟩ := hokC.1 rfl
                                  refine ij_step_call hok hB ih hy hl0 hz hr hB1 ?_
                                  intro p e R s m args below meth c' H locs cells slots mc1 ms1 ls hx hb hml hown hts hls hE hP hS hM hroom hf hpre
                                  rw [eas] at hM hpre ⊢
                                  exact va_runI (As := ((st.take b).reverse).map (ij_cv B)) ⟨hx, hb, hml, hown, hts⟩ hM ⟨callB_of b hts (ij_good hok hB1.2.2.1) (by unfold ij_wsA; rw [ht1]) rfl rfl (hts _ hB1.2.1) (hts _ hl1) hB1.2.2.2.1 hroom, hn1, hts _ hi1⟩ ⟨ij_blind _ _, hpre⟩ rfl (by simpa using sp3) hls hstk (lv_room (by rw [ij_cv_sum B hB]; exact hc.2.2)) hdec hf
                                · obtain ⟨hB1, hi1, hn1, ht1, hst', hn2⟩ := hokC.2 rfl
                                  refine ij_step_call hok hB ih hy hl0 hz hr hB1 ?_
                                  intro p e R s m args below meth c' H locs cells slots mc1 ms1 ls hx hb hml hown hts hls hE hP hS hM hroom hf hpre
                                  rw [eas] at hM hpre ⊢
                                  exact va_runIN (As := ((st.take b).reverse).map (ij_cv B)) ⟨hx, hb, hml, hown, hts⟩ hM ⟨va_cnB b hts (ij_good hok hB1.2.2.1) (by unfold ij_wsA; rw [ht1]) rfl rfl (hE.2.2.1 _ hn2) (hts _ hB1.2.1) hB1.2.2.2.1 hroom, hn1, hts _ hi1⟩ ⟨ij_blind _ _, hpre⟩ rfl (by simpa using sp3) hls hstk (lv_room (by rw [ij_cv_sum B hB]; exact hc.2.2)) hdec hf
                              · cases hq
                            · cases hq
                          · cases hq
                        · cases hr
                      · cases hr
                    · cases hr
end IJ
end
section
/-! Tables of the program, printed out of what TURN printed: classes, methods, their rows. -/
def ij_cn (k : Nat) : String := match k with
  | 0 => "ScaleForge$Guessing"
  | 1 => "ScaleForge$Life"
  | 2 => "ScaleForge$Reader"
  | 3 => "ScaleForge$Ring"
  | 4 => "ScaleForge$Scale"
  | 5 => "ScaleForge$ScaleText"
  | 6 => "ScaleForge$Studies"
  | 7 => "ScaleForge$StudyText"
  | 8 => "ScaleForge$Tray"
  | 9 => "ScaleForge$Walk"
  | 10 => "ScaleForge"
  | 11 => "ScaleForgeModel"
  | 12 => "ScaleForge$Bits"
  | 13 => "ScaleForgeLaw"
  | 14 => "java/lang/String"
  | 15 => "java/lang/StringLatin1"
  | 16 => "jdk/internal/util/Preconditions"
  | 17 => "java/lang/Long"
  | _ => "java/lang/Math"
def ij_x0 : u_T := fun k => match k with
  | 0 => ("ScaleForge$Guessing", "reach", "[J", true)
  | _ => ("ScaleForge$Guessing", "found", "J", false)
def ij_x1 : u_T := fun k => match k with
  | 0 => ("ScaleForge$Life", "scale", "LScaleForge$Scale;", true)
  | 1 => ("ScaleForge$Life", "studies", "LScaleForge$Studies;", true)
  | 2 => ("ScaleForge$Life", "draws", "I", false)
  | 3 => ("ScaleForge$Life", "at", "I", false)
  | 4 => ("ScaleForge$Life", "isOver", "Z", false)
  | 5 => ("ScaleForge$Life", "open", "[I", true)
  | 6 => ("ScaleForge$Life", "rounds", "[I", true)
  | 7 => ("ScaleForge$Life", "depth", "I", false)
  | 8 => ("ScaleForge$Life", "wasRun", "Z", false)
  | 9 => ("ScaleForge$Life", "done", "I", false)
  | 10 => ("ScaleForge$Life", "missed", "I", false)
  | 11 => ("ScaleForge$Life", "struck", "I", false)
  | 12 => ("ScaleForge$Life", "released", "I", false)
  | 13 => ("ScaleForge$Life", "letGo", "I", false)
  | 14 => ("ScaleForge$Life", "wasCut", "Z", false)
  | _ => ("ScaleForge$Life", "log", "[I", true)
def ij_x2 : u_T := fun k => match k with
  | 0 => ("ScaleForge$Reader", "tape", "[B", true)
  | 1 => ("ScaleForge$Reader", "fed", "I", false)
  | 2 => ("ScaleForge$Reader", "end", "I", false)
  | 3 => ("ScaleForge$Reader", "at", "I", false)
  | 4 => ("ScaleForge$Reader", "sort", "I", false)
  | 5 => ("ScaleForge$Reader", "start", "I", false)
  | 6 => ("ScaleForge$Reader", "value", "I", false)
  | 7 => ("ScaleForge$Reader", "fault", "I", false)
  | _ => ("ScaleForge$Reader", "faultPlace", "I", false)
def ij_x3 : u_T := fun k => match k with
  | 0 => ("ScaleForge$Ring", "tones", "[I", true)
  | 1 => ("ScaleForge$Ring", "set", "J", false)
  | 2 => ("ScaleForge$Ring", "period", "I", false)
  | _ => ("ScaleForge$Ring", "many", "I", false)
def ij_x4 : u_T := fun k => match k with
  | 0 => ("ScaleForge$Scale", "parts", "[I", true)
  | 1 => ("ScaleForge$Scale", "pressed", "[I", true)
  | 2 => ("ScaleForge$Scale", "pressedMany", "I", false)
  | 3 => ("ScaleForge$Scale", "sounding", "J", false)
  | _ => ("ScaleForge$Scale", "degrees", "J", false)
def ij_x5 : u_T := fun k => match k with
  | 0 => ("ScaleForge$ScaleText", "reader", "LScaleForge$Reader;", true)
  | 1 => ("ScaleForge$ScaleText", "draft", "LScaleForge$Scale;", true)
  | _ => ("ScaleForge$ScaleText", "toldParts", "J", false)
def ij_x6 : u_T := fun k => match k with
  | 0 => ("ScaleForge$Studies", "kinds", "[I", true)
  | 1 => ("ScaleForge$Studies", "tests", "[I", true)
  | 2 => ("ScaleForge$Studies", "numbers", "[I", true)
  | 3 => ("ScaleForge$Studies", "behind", "[I", true)
  | 4 => ("ScaleForge$Studies", "many", "I", false)
  | _ => ("ScaleForge$Studies", "areThere", "Z", false)
def ij_x7 : u_T := fun k => match k with
  | 0 => ("ScaleForge$StudyText", "reader", "LScaleForge$Reader;", true)
  | 1 => ("ScaleForge$StudyText", "draft", "LScaleForge$Studies;", true)
  | 2 => ("ScaleForge$StudyText", "open", "[I", true)
  | _ => ("ScaleForge$StudyText", "depth", "I", false)
def ij_x8 : u_T := fun k => match k with
  | 0 => ("ScaleForge$Tray", "numbers", "[J", true)
  | 1 => ("ScaleForge$Tray", "sort", "I", false)
  | _ => ("ScaleForge$Tray", "many", "I", false)
def ij_x9 : u_T := fun k => match k with
  | 0 => ("ScaleForge$Walk", "tones", "[I", true)
  | 1 => ("ScaleForge$Walk", "order", "[I", true)
  | 2 => ("ScaleForge$Walk", "toGo", "[I", true)
  | 3 => ("ScaleForge$Walk", "many", "I", false)
  | _ => ("ScaleForge$Walk", "period", "I", false)
def ij_x10 : u_T := fun k => match k with
  | 0 => ("ScaleForge", "status", "I", false)
  | 1 => ("ScaleForge", "top", "J", false)
  | 2 => ("ScaleForge", "bottom", "J", false)
  | 3 => ("ScaleForge", "trays", "[LScaleForge$Tray;", true)
  | 4 => ("ScaleForge", "reader", "LScaleForge$Reader;", true)
  | 5 => ("ScaleForge", "scaleText", "LScaleForge$ScaleText;", true)
  | 6 => ("ScaleForge", "studyText", "LScaleForge$StudyText;", true)
  | 7 => ("ScaleForge", "scale", "LScaleForge$Scale;", true)
  | 8 => ("ScaleForge", "studies", "LScaleForge$Studies;", true)
  | 9 => ("ScaleForge", "ring", "LScaleForge$Ring;", true)
  | 10 => ("ScaleForge", "guessing", "LScaleForge$Guessing;", true)
  | 11 => ("ScaleForge", "walk", "LScaleForge$Walk;", true)
  | 12 => ("ScaleForge", "row", "[J", true)
  | 13 => ("ScaleForge", "life", "LScaleForge$Life;", true)
  | 14 => ("ScaleForge", "trialScale", "LScaleForge$Scale;", true)
  | 15 => ("ScaleForge", "trialLife", "LScaleForge$Life;", true)
  | 16 => ("ScaleForge", "markedScales", "[LScaleForge$Scale;", true)
  | 17 => ("ScaleForge", "markedStudies", "[LScaleForge$Studies;", true)
  | _ => ("ScaleForge", "marks", "I", false)
def ij_x11 : u_T := fun k => match k with
  | 0 => ("ScaleForgeModel", "at", "[I", true)
  | 1 => ("ScaleForgeModel", "status", "I", false)
  | 2 => ("ScaleForgeModel", "top", "J", false)
  | 3 => ("ScaleForgeModel", "bottom", "J", false)
  | 4 => ("ScaleForgeModel", "sort", "[I", true)
  | 5 => ("ScaleForgeModel", "trayMany", "[I", true)
  | 6 => ("ScaleForgeModel", "trays", "[J", true)
  | 7 => ("ScaleForgeModel", "tape", "[B", true)
  | 8 => ("ScaleForgeModel", "text", "[B", true)
  | 9 => ("ScaleForgeModel", "taped", "I", false)
  | 10 => ("ScaleForgeModel", "size", "I", false)
  | 11 => ("ScaleForgeModel", "token", "I", false)
  | 12 => ("ScaleForgeModel", "from", "I", false)
  | 13 => ("ScaleForgeModel", "end", "I", false)
  | 14 => ("ScaleForgeModel", "value", "I", false)
  | 15 => ("ScaleForgeModel", "faultKind", "I", false)
  | 16 => ("ScaleForgeModel", "faultPlace", "I", false)
  | 17 => ("ScaleForgeModel", "faults", "I", false)
  | 18 => ("ScaleForgeModel", "toldParts", "I", false)
  | 19 => ("ScaleForgeModel", "opened", "[I", true)
  | 20 => ("ScaleForgeModel", "depth", "I", false)
  | 21 => ("ScaleForgeModel", "counted", "I", false)
  | 22 => ("ScaleForgeModel", "toneBy", "[I", true)
  | 23 => ("ScaleForgeModel", "stepBy", "[I", true)
  | 24 => ("ScaleForgeModel", "degreeBy", "[I", true)
  | 25 => ("ScaleForgeModel", "sizeBy", "[I", true)
  | 26 => ("ScaleForgeModel", "many", "I", false)
  | 27 => ("ScaleForgeModel", "sizes", "I", false)
  | 28 => ("ScaleForgeModel", "bestName", "I", false)
  | 29 => ("ScaleForgeModel", "namesMany", "I", false)
  | 30 => ("ScaleForgeModel", "hasBy", "[Z", true)
  | 31 => ("ScaleForgeModel", "goalBy", "[I", true)
  | 32 => ("ScaleForgeModel", "triedBy", "[I", true)
  | 33 => ("ScaleForgeModel", "farBy", "[I", true)
  | 34 => ("ScaleForgeModel", "wayBy", "[I", true)
  | 35 => ("ScaleForgeModel", "goals", "I", false)
  | 36 => ("ScaleForgeModel", "shortest", "I", false)
  | 37 => ("ScaleForgeModel", "isShape", "[Z", true)
  | 38 => ("ScaleForgeModel", "isGuess", "[Z", true)
  | 39 => ("ScaleForgeModel", "staysBy", "[Z", true)
  | 40 => ("ScaleForgeModel", "topBy", "[J", true)
  | 41 => ("ScaleForgeModel", "bottomBy", "[J", true)
  | 42 => ("ScaleForgeModel", "wrongBy", "[J", true)
  | 43 => ("ScaleForgeModel", "drawn", "I", false)
  | 44 => ("ScaleForgeModel", "ranSteps", "I", false)
  | 45 => ("ScaleForgeModel", "heldMany", "I", false)
  | 46 => ("ScaleForgeModel", "logMany", "I", false)
  | 47 => ("ScaleForgeModel", "toldLog", "I", false)
  | 48 => ("ScaleForgeModel", "loops", "[I", true)
  | 49 => ("ScaleForgeModel", "ran", "[I", true)
  | 50 => ("ScaleForgeModel", "told1", "[I", true)
  | 51 => ("ScaleForgeModel", "heldBy", "[I", true)
  | 52 => ("ScaleForgeModel", "logBy", "[I", true)
  | 53 => ("ScaleForgeModel", "log1", "[I", true)
  | 54 => ("ScaleForgeModel", "isTold", "Z", false)
  | _ => ("ScaleForgeModel", "marks", "I", false)
def ij_tx (k : Nat) : u_T := match k with
  | 0 => ij_x0
  | 1 => ij_x1
  | 2 => ij_x2
  | 3 => ij_x3
  | 4 => ij_x4
  | 5 => ij_x5
  | 6 => ij_x6
  | 7 => ij_x7
  | 8 => ij_x8
  | 9 => ij_x9
  | 10 => ij_x10
  | _ => ij_x11
def ij_nf (k : Nat) : Nat := match k with
  | 0 => 2
  | 1 => 16
  | 2 => 9
  | 3 => 4
  | 4 => 5
  | 5 => 3
  | 6 => 6
  | 7 => 4
  | 8 => 3
  | 9 => 5
  | 10 => 19
  | _ => 56
def ij_ty0 (c k : Nat) : FieldType := match c with
  | 0 => (match k with
    | 0 => (.array .long)
    | _ => .long)
  | 1 => (match k with
    | 0 => (.object "ScaleForge$Scale")
    | 1 => (.object "ScaleForge$Studies")
    | 2 => .int
    | 3 => .int
    | 4 => .boolean
    | 5 => (.array .int)
    | 6 => (.array .int)
    | 7 => .int
    | 8 => .boolean
    | 9 => .int
    | 10 => .int
    | 11 => .int
    | 12 => .int
    | 13 => .int
    | 14 => .boolean
    | _ => (.array .int))
  | 2 => (match k with
    | 0 => (.array .byte)
    | 1 => .int
    | 2 => .int
    | 3 => .int
    | 4 => .int
    | 5 => .int
    | 6 => .int
    | 7 => .int
    | _ => .int)
  | 3 => (match k with
    | 0 => (.array .int)
    | 1 => .long
    | 2 => .int
    | _ => .int)
  | 4 => (match k with
    | 0 => (.array .int)
    | 1 => (.array .int)
    | 2 => .int
    | 3 => .long
    | _ => .long)
  | 5 => (match k with
    | 0 => (.object "ScaleForge$Reader")
    | 1 => (.object "ScaleForge$Scale")
    | _ => .long)
  | 6 => (match k with
    | 0 => (.array .int)
    | 1 => (.array .int)
    | 2 => (.array .int)
    | 3 => (.array .int)
    | 4 => .int
    | _ => .boolean)
  | 7 => (match k with
    | 0 => (.object "ScaleForge$Reader")
    | 1 => (.object "ScaleForge$Studies")
    | 2 => (.array .int)
    | _ => .int)
  | 8 => (match k with
    | 0 => (.array .long)
    | 1 => .int
    | _ => .int)
  | 9 => (match k with
    | 0 => (.array .int)
    | 1 => (.array .int)
    | 2 => (.array .int)
    | 3 => .int
    | _ => .int)
  | 10 => (match k with
    | 0 => .int
    | 1 => .long
    | 2 => .long
    | 3 => (.array (.object "ScaleForge$Tray"))
    | 4 => (.object "ScaleForge$Reader")
    | 5 => (.object "ScaleForge$ScaleText")
    | 6 => (.object "ScaleForge$StudyText")
    | 7 => (.object "ScaleForge$Scale")
    | 8 => (.object "ScaleForge$Studies")
    | 9 => (.object "ScaleForge$Ring")
    | 10 => (.object "ScaleForge$Guessing")
    | 11 => (.object "ScaleForge$Walk")
    | 12 => (.array .long)
    | 13 => (.object "ScaleForge$Life")
    | 14 => (.object "ScaleForge$Scale")
    | 15 => (.object "ScaleForge$Life")
    | 16 => (.array (.object "ScaleForge$Scale"))
    | 17 => (.array (.object "ScaleForge$Studies"))
    | _ => .int)
  | _ => (match k with
    | 0 => (.array .int)
    | 1 => .int
    | 2 => .long
    | 3 => .long
    | 4 => (.array .int)
    | 5 => (.array .int)
    | 6 => (.array .long)
    | 7 => (.array .byte)
    | 8 => (.array .byte)
    | 9 => .int
    | 10 => .int
    | 11 => .int
    | 12 => .int
    | 13 => .int
    | 14 => .int
    | 15 => .int
    | 16 => .int
    | 17 => .int
    | 18 => .int
    | 19 => (.array .int)
    | 20 => .int
    | 21 => .int
    | 22 => (.array .int)
    | 23 => (.array .int)
    | 24 => (.array .int)
    | 25 => (.array .int)
    | 26 => .int
    | 27 => .int
    | 28 => .int
    | 29 => .int
    | 30 => (.array .boolean)
    | 31 => (.array .int)
    | 32 => (.array .int)
    | 33 => (.array .int)
    | 34 => (.array .int)
    | 35 => .int
    | 36 => .int
    | 37 => (.array .boolean)
    | 38 => (.array .boolean)
    | 39 => (.array .boolean)
    | 40 => (.array .long)
    | 41 => (.array .long)
    | 42 => (.array .long)
    | 43 => .int
    | 44 => .int
    | 45 => .int
    | 46 => .int
    | 47 => .int
    | 48 => (.array .int)
    | 49 => (.array .int)
    | 50 => (.array .int)
    | 51 => (.array .int)
    | 52 => (.array .int)
    | 53 => (.array .int)
    | 54 => .boolean
    | _ => .int)
def ij_tt (c k : Nat) : Nat := match c with
  | 0 => (match k with
    | 0 => 2
    | _ => 1)
  | 1 => (match k with
    | 0 => 2
    | 1 => 2
    | 2 => 0
    | 3 => 0
    | 4 => 3
    | 5 => 2
    | 6 => 2
    | 7 => 0
    | 8 => 3
    | 9 => 0
    | 10 => 0
    | 11 => 0
    | 12 => 0
    | 13 => 0
    | 14 => 3
    | _ => 2)
  | 2 => (match k with
    | 0 => 2
    | 1 => 0
    | 2 => 0
    | 3 => 0
    | 4 => 0
    | 5 => 0
    | 6 => 0
    | 7 => 0
    | _ => 0)
  | 3 => (match k with
    | 0 => 2
    | 1 => 1
    | 2 => 0
    | _ => 0)
  | 4 => (match k with
    | 0 => 2
    | 1 => 2
    | 2 => 0
    | 3 => 1
    | _ => 1)
  | 5 => (match k with
    | 0 => 2
    | 1 => 2
    | _ => 1)
  | 6 => (match k with
    | 0 => 2
    | 1 => 2
    | 2 => 2
    | 3 => 2
    | 4 => 0
    | _ => 3)
  | 7 => (match k with
    | 0 => 2
    | 1 => 2
    | 2 => 2
    | _ => 0)
  | 8 => (match k with
    | 0 => 2
    | 1 => 0
    | _ => 0)
  | 9 => (match k with
    | 0 => 2
    | 1 => 2
    | 2 => 2
    | 3 => 0
    | _ => 0)
  | 10 => (match k with
    | 0 => 0
    | 1 => 1
    | 2 => 1
    | 3 => 2
    | 4 => 2
    | 5 => 2
    | 6 => 2
    | 7 => 2
    | 8 => 2
    | 9 => 2
    | 10 => 2
    | 11 => 2
    | 12 => 2
    | 13 => 2
    | 14 => 2
    | 15 => 2
    | 16 => 2
    | 17 => 2
    | _ => 0)
  | _ => (match k with
    | 0 => 2
    | 1 => 0
    | 2 => 1
    | 3 => 1
    | 4 => 2
    | 5 => 2
    | 6 => 2
    | 7 => 2
    | 8 => 2
    | 9 => 0
    | 10 => 0
    | 11 => 0
    | 12 => 0
    | 13 => 0
    | 14 => 0
    | 15 => 0
    | 16 => 0
    | 17 => 0
    | 18 => 0
    | 19 => 2
    | 20 => 0
    | 21 => 0
    | 22 => 2
    | 23 => 2
    | 24 => 2
    | 25 => 2
    | 26 => 0
    | 27 => 0
    | 28 => 0
    | 29 => 0
    | 30 => 2
    | 31 => 2
    | 32 => 2
    | 33 => 2
    | 34 => 2
    | 35 => 0
    | 36 => 0
    | 37 => 2
    | 38 => 2
    | 39 => 2
    | 40 => 2
    | 41 => 2
    | 42 => 2
    | 43 => 0
    | 44 => 0
    | 45 => 0
    | 46 => 0
    | 47 => 0
    | 48 => 2
    | 49 => 2
    | 50 => 2
    | 51 => 2
    | 52 => 2
    | 53 => 2
    | 54 => 3
    | _ => 0)
abbrev ij_cl : List vw_C := [(ij_cn 0, ij_tx 0, ij_nf 0), (ij_cn 1, ij_tx 1, ij_nf 1), (ij_cn 2, ij_tx 2, ij_nf 2), (ij_cn 3, ij_tx 3, ij_nf 3), (ij_cn 4, ij_tx 4, ij_nf 4), (ij_cn 5, ij_tx 5, ij_nf 5), (ij_cn 6, ij_tx 6, ij_nf 6), (ij_cn 7, ij_tx 7, ij_nf 7), (ij_cn 8, ij_tx 8, ij_nf 8), (ij_cn 9, ij_tx 9, ij_nf 9), (ij_cn 10, ij_tx 10, ij_nf 10), (ij_cn 11, ij_tx 11, ij_nf 11)]
abbrev ij_X0 : ij_Cx := (ij_cn, ij_tx, ij_nf)
-- the methods, by their numbers
-- 0: ScaleForge$Tray.<init>()V
-- 1: ScaleForge$Reader.<init>()V
-- 2: ScaleForge$Scale.clear()V
-- 3: ScaleForge.isBoundByPeriod(I)Z
-- 4: java/lang/Math.floorMod(II)I
-- 5: ScaleForge$Scale.folded(I)I
-- 6: ScaleForge$Bits.of(I)J
-- 7: ScaleForge$Bits.below(I)J
-- 8: ScaleForge$Scale.stacked(III)J
-- 9: ScaleForge$Scale.settle()V
-- 10: ScaleForge$Scale.<init>()V
-- 11: ScaleForge$ScaleText.<init>(LScaleForge$Reader;)V
-- 12: ScaleForge$Studies.<init>()V
-- 13: ScaleForge$StudyText.<init>(LScaleForge$Reader;)V
-- 14: ScaleForge$Ring.<init>()V
-- 15: ScaleForge$Guessing.<init>()V
-- 16: ScaleForge$Walk.<init>()V
-- 17: ScaleForge$Life.<init>(LScaleForge$Scale;LScaleForge$Studies;)V
-- 18: ScaleForge.<init>()V
-- 19: ScaleForgeModel.plain(I)V
-- 20: ScaleForgeModel.<init>()V
-- 21: ScaleForge.status()I
-- 22: ScaleForgeModel.status()I
-- 23: ScaleForge.top()J
-- 24: ScaleForgeModel.top()J
-- 25: ScaleForge.bottom()J
-- 26: ScaleForgeModel.bottom()J
-- 27: ScaleForge.trayAt(I)LScaleForge$Tray;
-- 28: ScaleForge.refuse(I)Z
-- 29: ScaleForge$Tray.empty(II)V
-- 30: ScaleForge.grant()Z
-- 31: ScaleForge.tray(III)Z
-- 32: ScaleForgeModel.isTray(I)Z
-- 33: ScaleForgeModel.is(I)Z
-- 34: ScaleForgeModel.tray(III)Z
-- 35: ScaleForge$Tray.isMissing()Z
-- 36: ScaleForge$Tray.hasPlace(I)Z
-- 37: ScaleForge.placeTrouble(LScaleForge$Tray;I)I
-- 38: ScaleForge$Tray.cut(J)J
-- 39: ScaleForge$Tray.put(IJ)V
-- 40: ScaleForge.write(IIJ)Z
-- 41: ScaleForgeModel.wrongPlace(II)I
-- 42: ScaleForgeModel.cut(JI)J
-- 43: ScaleForgeModel.write(IIJ)Z
-- 44: ScaleForge.none(I)I
-- 45: ScaleForge$Tray.at(I)J
-- 46: ScaleForge.read(II)J
-- 47: ScaleForgeModel.read(II)J
-- 48: ScaleForge$Tray.hasRun(II)Z
-- 49: ScaleForge.pour(IIIII)Z
-- 50: ScaleForgeModel.pour(IIIII)Z
-- 51: ScaleForge$Reader.append(I)V
-- 52: ScaleForge.feed(IIIII)I
-- 53: ScaleForgeModel.four(I)V
-- 54: ScaleForgeModel.feed(IIIII)I
-- 55: ScaleForge$Reader.begin(I)V
-- 56: ScaleForge$Reader.byteAt(I)I
-- 57: ScaleForge$Reader.isBlank(I)Z
-- 58: ScaleForge$Reader.isLetter(I)Z
-- 59: ScaleForge$Reader.passWord()V
-- 60: ScaleForge$Reader.isDigit(I)Z
-- 61: ScaleForge$Reader.passNumber()V
-- 62: ScaleForge$Reader.isSign(I)Z
-- 63: ScaleForge$Reader.blame(I)Z
-- 64: ScaleForge$Reader.next()Z
-- 65: java/lang/String.coder()B
-- 66: java/lang/String.length()I
-- 67: java/lang/String.isLatin1()Z
-- 68: jdk/internal/util/Preconditions.checkIndex(IILjava/util/function/BiFunction;)I
-- 69: java/lang/String.checkIndex(II)V
-- 70: java/lang/StringLatin1.charAt([BI)C
-- 71: java/lang/String.charAt(I)C
-- 72: ScaleForge$Reader.isWord(Ljava/lang/String;)Z
-- 73: ScaleForge$ScaleText.partNow()I
-- 74: ScaleForge$Bits.has(JI)Z
-- 75: ScaleForge$ScaleText.isTooLate(I)Z
-- 76: ScaleForge$Reader.isSignNow(C)Z
-- 77: ScaleForge$Scale.isTone(I)Z
-- 78: ScaleForge$ScaleText.takeSounds()Z
-- 79: ScaleForge.leastOf(I)I
-- 80: ScaleForge$Scale.period()I
-- 81: ScaleForge.mostOf(II)I
-- 82: ScaleForge$Reader.takeNumber(II)Z
-- 83: ScaleForge$Scale.setPart(II)V
-- 84: ScaleForge$Reader.takeSemicolon()Z
-- 85: ScaleForge$ScaleText.takePart(I)Z
-- 86: ScaleForge$ScaleText.parse(I)Z
-- 87: ScaleForge$Scale.becomes(LScaleForge$Scale;)V
-- 88: java/lang/Long.bitCount(J)I
-- 89: ScaleForge$Scale.degreesMany()I
-- 90: ScaleForge.give(I)I
-- 91: ScaleForge.scale(I)I
-- 92: ScaleForgeModel.byteAt(I)I
-- 93: ScaleForgeModel.isSmall(I)Z
-- 94: ScaleForgeModel.isDigit(I)Z
-- 95: java/lang/Math.min(II)I
-- 96: ScaleForgeModel.ahead()V
-- 97: ScaleForgeModel.begins(II)Z
-- 98: ScaleForgeModel.refuse(I)I
-- 99: ScaleForgeModel.inWords(Ljava/lang/String;)I
-- 100: ScaleForgeModel.fails(I)Z
-- 101: ScaleForgeModel.isIn(II)Z
-- 102: ScaleForgeModel.number(III)Z
-- 103: ScaleForgeModel.sounding()Z
-- 104: ScaleForgeModel.isSign(I)Z
-- 105: ScaleForgeModel.wantSign(I)Z
-- 106: ScaleForgeModel.leastOf(I)I
-- 107: ScaleForgeModel.mostOf(II)I
-- 108: ScaleForgeModel.scalePart()Z
-- 109: ScaleForgeModel.isFolded(I)Z
-- 110: ScaleForgeModel.folds(I)V
-- 111: ScaleForgeModel.folded(II)I
-- 112: ScaleForgeModel.chainBy(II)I
-- 113: ScaleForgeModel.lays(II)V
-- 114: ScaleForgeModel.laysScale()V
-- 115: ScaleForgeModel.gives(I)I
-- 116: ScaleForgeModel.taken(I)I
-- 117: ScaleForgeModel.scale(I)I
-- 118: ScaleForge$Studies.hasStep(I)Z
-- 119: ScaleForge$StudyText.takeEnd()Z
-- 120: ScaleForge$StudyText.kindNow()I
-- 121: ScaleForge$StudyText.comparesNow()I
-- 122: ScaleForge$StudyText.toneTestNow()I
-- 123: ScaleForge$StudyText.takeTest(I)Z
-- 124: ScaleForge$StudyText.mostNumber(II)I
-- 125: ScaleForge$StudyText.takeStep(I)Z
-- 126: ScaleForge$StudyText.parse(I)Z
-- 127: ScaleForge$Studies.becomes(LScaleForge$Studies;)V
-- 128: ScaleForge.studies(I)I
-- 129: ScaleForgeModel.test(I)Z
-- 130: ScaleForgeModel.studyOrder(II)Z
-- 131: ScaleForgeModel.studyStep()Z
-- 132: ScaleForgeModel.studies(I)I
-- 133: ScaleForge.fault(I)I
-- 134: ScaleForgeModel.fault(I)I
-- 135: ScaleForge$Scale.part(I)I
-- 136: ScaleForge$Ring.gather(JI)V
-- 137: ScaleForge.degreesRing()LScaleForge$Ring;
-- 138: ScaleForge$Ring.toneAt(I)I
-- 139: ScaleForge$Ring.between(II)I
-- 140: ScaleForge$Ring.spanFrom(II)I
-- 141: ScaleForge$Ring.sizes()J
-- 142: ScaleForge.told(I)I
-- 143: ScaleForgeModel.sounds(I)I
-- 144: ScaleForgeModel.soundMany()I
-- 145: ScaleForgeModel.told(I)I
-- 146: ScaleForge.isFarName(I)Z
-- 147: ScaleForge$Scale.chainTone(I)I
-- 148: ScaleForge.chain(I)I
-- 149: ScaleForgeModel.isFrom(JJJ)Z
-- 150: ScaleForgeModel.chain(I)I
-- 151: ScaleForge.isDegree(I)Z
-- 152: ScaleForge.tone(I)I
-- 153: ScaleForgeModel.isDegree(I)Z
-- 154: ScaleForgeModel.tone(I)I
-- 155: ScaleForge$Scale.isOfDegree(I)Z
-- 156: ScaleForge.degreeOf(I)I
-- 157: ScaleForge.degree(I)I
-- 158: ScaleForgeModel.isTone(I)Z
-- 159: ScaleForgeModel.orNone(I)I
-- 160: ScaleForgeModel.degree(I)I
-- 161: ScaleForge.step(I)I
-- 162: ScaleForgeModel.step(I)I
-- 163: ScaleForge.span(II)I
-- 164: ScaleForgeModel.spanOf(II)I
-- 165: ScaleForgeModel.span(II)I
-- 166: ScaleForge$Bits.pick(JI)I
-- 167: ScaleForge.giveFound(I)I
-- 168: ScaleForge.sizeAt(I)I
-- 169: ScaleForgeModel.isSize(I)Z
-- 170: ScaleForgeModel.sizeAt(I)I
-- 171: ScaleForge$Ring.stepsOf(I)I
-- 172: ScaleForge.sizeMany(I)I
-- 173: ScaleForgeModel.sizeCount(I)I
-- 174: ScaleForgeModel.sizeMany(I)I
-- 175: ScaleForge.isAllowed(III)Z
-- 176: ScaleForge.rule(II)I
-- 177: ScaleForgeModel.rule(II)I
-- 178: ScaleForge$Scale.strike(I)Z
-- 179: ScaleForge.press(I)I
-- 180: ScaleForgeModel.presses(I)Z
-- 181: ScaleForgeModel.press(I)I
-- 182: ScaleForge$Scale.release(I)Z
-- 183: ScaleForge.lift(I)I
-- 184: ScaleForgeModel.lifts(I)Z
-- 185: ScaleForgeModel.lift(I)I
-- 186: ScaleForge.sift()I
-- 187: ScaleForgeModel.sift()I
-- 188: ScaleForge$Bits.turn(JII)J
-- 189: ScaleForge$Scale.fitting()I
-- 190: ScaleForge.glide(I)I
-- 191: ScaleForgeModel.keeps(I)V
-- 192: ScaleForgeModel.laysChain(II)V
-- 193: ScaleForgeModel.fitBy()I
-- 194: ScaleForgeModel.fitNow()I
-- 195: ScaleForgeModel.glide(I)I
-- 196: ScaleForge.flip()I
-- 197: ScaleForgeModel.flip()I
-- 198: ScaleForge.soundAt(I)I
-- 199: ScaleForgeModel.soundAt(I)I
-- 200: ScaleForge$Scale.pressedAt(I)I
-- 201: ScaleForge.recent(I)I
-- 202: ScaleForgeModel.recent(I)I
-- 203: ScaleForge$Ring.spanSorts(I)I
-- 204: ScaleForge.variety(I)I
-- 205: ScaleForgeModel.varietyOf(I)I
-- 206: ScaleForgeModel.variety(I)I
-- 207: ScaleForge.myhill()I
-- 208: ScaleForgeModel.myhill()I
-- 209: ScaleForge.wellFormed()J
-- 210: ScaleForge.lengths()I
-- 211: ScaleForgeModel.wellFormed(I)I
-- 212: ScaleForgeModel.lengths()I
-- 213: ScaleForge.lengthAt(I)I
-- 214: ScaleForgeModel.lengthAt(I)I
-- 215: ScaleForge$Ring.modeOf(I)J
-- 216: ScaleForge.modes()I
-- 217: ScaleForgeModel.areAlike(II)Z
-- 218: ScaleForgeModel.modes()I
-- 219: ScaleForge.alike(II)I
-- 220: ScaleForgeModel.alike(II)I
-- 221: ScaleForge$Ring.brightnessOf(I)I
-- 222: ScaleForge.brightness(I)I
-- 223: ScaleForgeModel.brightnessOf(I)I
-- 224: ScaleForgeModel.brightness(I)I
-- 225: ScaleForge.darkerThan(II)I
-- 226: ScaleForge.modeBy(I)I
-- 227: ScaleForgeModel.modeBy(I)I
-- 228: ScaleForge$Scale.nominalOf(I)I
-- 229: ScaleForge.nominal(I)I
-- 230: ScaleForgeModel.nominalOf(I)I
-- 231: ScaleForgeModel.nominal(I)I
-- 232: java/lang/Math.floorDiv(II)I
-- 233: ScaleForge$Scale.sharpsOf(I)I
-- 234: ScaleForge.sharps(I)I
-- 235: ScaleForgeModel.sharpsOf(I)I
-- 236: ScaleForgeModel.sharps(I)I
-- 237: ScaleForge.named(II)I
-- 238: ScaleForgeModel.named(II)I
-- 239: java/lang/Math.abs(I)I
-- 240: ScaleForge.simplest(II)I
-- 241: ScaleForgeModel.laysNames(I)V
-- 242: ScaleForgeModel.simplest(II)I
-- 243: ScaleForge.names(I)I
-- 244: ScaleForgeModel.names(I)I
-- 245: ScaleForge$Scale.toneOfKey(II)I
-- 246: ScaleForge.keyTone(II)I
-- 247: ScaleForgeModel.toneOfKey(I)I
-- 248: ScaleForgeModel.keyTone(II)I
-- 249: ScaleForge.keys(I)I
-- 250: ScaleForgeModel.keys(I)I
-- 251: ScaleForge.keyOf(II)I
-- 252: ScaleForgeModel.bestKey(I)I
-- 253: ScaleForgeModel.keyOf(II)I
-- 254: ScaleForge.keyTones()I
-- 255: ScaleForgeModel.keyTones()I
-- 256: ScaleForge.nearest(I)I
-- 257: ScaleForgeModel.nearest(I)I
-- 258: ScaleForge.fit()I
-- 259: ScaleForgeModel.fit()I
-- 260: ScaleForge.bestRoot()I
-- 261: ScaleForgeModel.bestRoot()I
-- 262: ScaleForge$Guessing.reachOf(LScaleForge$Scale;I)J
-- 263: ScaleForge$Guessing.search(LScaleForge$Scale;)V
-- 264: ScaleForge.guesses()I
-- 265: ScaleForgeModel.laysGuesses()I
-- 266: ScaleForgeModel.guesses()I
-- 267: ScaleForge.guessAt(I)I
-- 268: ScaleForgeModel.guessAt(I)I
-- 269: ScaleForge$Guessing.staying(II)I
-- 270: java/lang/Math.max(II)I
-- 271: ScaleForge$Guessing.bestQuestion(LScaleForge$Scale;)I
-- 272: ScaleForge.ask()I
-- 273: ScaleForgeModel.ask()I
-- 274: ScaleForge.common(I)I
-- 275: ScaleForgeModel.common(I)I
-- 276: ScaleForge$Walk.apart(II)I
-- 277: ScaleForge$Walk.getToGo(II)I
-- 278: ScaleForge$Walk.farBy(III)I
-- 279: ScaleForge$Walk.fewestFrom(II)I
-- 280: ScaleForge$Walk.setToGo(III)V
-- 281: ScaleForge$Walk.putInOrder()V
-- 282: ScaleForge$Walk.lay(JI)V
-- 283: ScaleForge$Walk.length()I
-- 284: ScaleForge.way()I
-- 285: ScaleForgeModel.arrives()V
-- 286: ScaleForgeModel.apart(II)I
-- 287: ScaleForgeModel.laysWay()Z
-- 288: ScaleForgeModel.way()I
-- 289: ScaleForge$Walk.stopAt(I)I
-- 290: ScaleForge.wayAt(I)I
-- 291: ScaleForgeModel.wayAt(I)I
-- 292: ScaleForge.pairShapes(LScaleForge$Ring;)I
-- 293: ScaleForge$Ring.farther(II)J
-- 294: ScaleForge.tripleShapes(LScaleForge$Ring;)I
-- 295: ScaleForge.shapes(I)I
-- 296: ScaleForgeModel.shapes(I)I
-- 297: ScaleForge.convergents()I
-- 298: ScaleForgeModel.laysConvergents()I
-- 299: ScaleForgeModel.convergents()I
-- 300: ScaleForge.commonDivisor(JJ)J
-- 301: ScaleForge.tell(JJ)Z
-- 302: ScaleForge.convergent(I)Z
-- 303: ScaleForgeModel.tellsBy(JJ)Z
-- 304: ScaleForgeModel.convergent(I)Z
-- 305: ScaleForge.ratio()Z
-- 306: ScaleForgeModel.ratio()Z
-- 307: ScaleForge.share(I)Z
-- 308: ScaleForgeModel.share(I)Z
-- 309: ScaleForge.mistuned(II)Z
-- 310: ScaleForgeModel.mistuned(II)Z
-- 311: ScaleForge.runTrouble(LScaleForge$Tray;I)I
-- 312: ScaleForge.copyScale(I)I
-- 313: ScaleForgeModel.copyScale(I)I
-- 314: ScaleForge.isStepApart(II)Z
-- 315: ScaleForge.steps(II)I
-- 316: ScaleForgeModel.areBeside(II)Z
-- 317: ScaleForgeModel.steps(II)I
-- 318: ScaleForge$Life.innermost()I
-- 319: ScaleForge$Life.isAtEnd()Z
-- 320: ScaleForge$Life.dropHeld(I)V
-- 321: ScaleForge$Life.endInnermost()V
-- 322: ScaleForge$Life.comesToStep()Z
-- 323: ScaleForge$Life.strikeOrMiss(I)Z
-- 324: ScaleForge$Life.releaseOrMiss(I)V
-- 325: ScaleForge$Scale.moveRoot(I)Z
-- 326: ScaleForge$Life.draw(I)I
-- 327: ScaleForge$Life.doAny()V
-- 328: ScaleForge$Life.enterIf(ZII)V
-- 329: ScaleForge$Life.isSo(II)Z
-- 330: ScaleForge$Life.leaveHold()V
-- 331: ScaleForge$Life.doStep(I)V
-- 332: ScaleForge$Life.letAllGo()V
-- 333: ScaleForge$Life.run(I)V
-- 334: ScaleForge.live(I)I
-- 335: ScaleForgeModel.ranIf(IZ)Z
-- 336: ScaleForgeModel.roots(I)Z
-- 337: ScaleForgeModel.holdsOn(I)Z
-- 338: ScaleForgeModel.draw(I)I
-- 339: ScaleForgeModel.doesAny()Z
-- 340: ScaleForgeModel.does(I)Z
-- 341: ScaleForgeModel.letsGo()V
-- 342: ScaleForgeModel.behindEnds(I)I
-- 343: ScaleForgeModel.holds(I)Z
-- 344: ScaleForgeModel.behind(IZ)I
-- 345: ScaleForgeModel.lives(I)V
-- 346: ScaleForgeModel.live(I)I
-- 347: ScaleForge$Life.count(I)I
-- 348: ScaleForge.lived(I)I
-- 349: ScaleForgeModel.lived(I)I
-- 350: ScaleForge$Life.letGoAt(I)I
-- 351: ScaleForge.logAt(I)I
-- 352: ScaleForgeModel.logAt(I)I
-- 353: ScaleForge.mean(II)Z
-- 354: ScaleForgeModel.brings(I)V
-- 355: ScaleForgeModel.mean(II)Z
-- 356: ScaleForge.mark()I
-- 357: ScaleForgeModel.copies(II)V
-- 358: ScaleForgeModel.mark()I
-- 359: ScaleForge.undo()I
-- 360: ScaleForgeModel.undo()I
-- 361: ScaleForgeLaw.law([I)Z
noncomputable def ij_t0 : List (Nat × ij_E) := [(0, .aload_n 0, 1, 0, 0, 0), (1, .invokespecial 3, 3, 999999, 0, 5), (4, .aload_n 0, 1, 0, 0, 0), (5, .bipush 60, 2, 0, 0, 0), (7, .newarray .long, 2, 0, 0, 0), (9, .putfield 9, 3, 8, 0, 0), (12, .aload_n 0, 1, 0, 0, 0), (13, .iconst 0, 1, 0, 0, 0), (14, .putfield 15, 3, 8, 1, 0), (17, .aload_n 0, 1, 0, 0, 0), (18, .iconst (-1), 1, 0, 0, 0), (19, .putfield 19, 3, 8, 2, 0), (22, .return_, 1, 0, 0, 0)]
noncomputable def ij_t1 : List (Nat × ij_E) := [(0, .aload_n 0, 1, 0, 0, 0), (1, .invokespecial 3, 3, 999999, 0, 5), (4, .aload_n 0, 1, 0, 0, 0), (5, .sipush 900, 3, 0, 0, 0), (8, .newarray .byte, 2, 0, 0, 0), (10, .putfield 9, 3, 2, 0, 0), (13, .aload_n 0, 1, 0, 0, 0), (14, .iconst 0, 1, 0, 0, 0), (15, .putfield 15, 3, 2, 1, 0), (18, .aload_n 0, 1, 0, 0, 0), (19, .iconst 0, 1, 0, 0, 0), (20, .putfield 19, 3, 2, 2, 0), (23, .aload_n 0, 1, 0, 0, 0), (24, .iconst 0, 1, 0, 0, 0), (25, .putfield 22, 3, 2, 3, 0), (28, .aload_n 0, 1, 0, 0, 0), (29, .iconst 0, 1, 0, 0, 0), (30, .putfield 25, 3, 2, 4, 0), (33, .aload_n 0, 1, 0, 0, 0), (34, .iconst 0, 1, 0, 0, 0), (35, .putfield 28, 3, 2, 5, 0), (38, .aload_n 0, 1, 0, 0, 0), (39, .iconst 0, 1, 0, 0, 0), (40, .putfield 31, 3, 2, 6, 0), (43, .aload_n 0, 1, 0, 0, 0), (44, .iconst (-1), 1, 0, 0, 0), (45, .putfield 34, 3, 2, 7, 0), (48, .aload_n 0, 1, 0, 0, 0), (49, .iconst (-1), 1, 0, 0, 0), (50, .putfield 37, 3, 2, 8, 0), (53, .return_, 1, 0, 0, 0)]
noncomputable def ij_t2 : List (Nat × ij_E) := [(0, .getstatic 24, 3, 0, 0, 0), (3, .iconst 0, 1, 0, 0, 0), (4, .aload_n 0, 1, 0, 0, 0), (5, .getfield 9, 3, 4, 0, 0), (8, .iconst 0, 1, 0, 0, 0), (9, .bipush 9, 2, 0, 0, 0), (11, .invokestatic 27, 3, 999998, 0, 6), (14, .aload_n 0, 1, 0, 0, 0), (15, .iconst 0, 1, 0, 0, 0), (16, .putfield 33, 3, 4, 2, 0), (19, .aload_n 0, 1, 0, 0, 0), (20, .lconst 0, 1, 0, 0, 0), (21, .putfield 37, 3, 4, 3, 0), (24, .return_, 1, 0, 0, 0)]
noncomputable def ij_t3 : List (Nat × ij_E) := [(0, .iload_n 0, 1, 0, 0, 0), (1, .iconst 2, 1, 0, 0, 0), (2, .if_icmp .eq 20, 3, 0, 0, 0), (5, .iload_n 0, 1, 0, 0, 0), (6, .iconst 5, 1, 0, 0, 0), (7, .if_icmp .eq 15, 3, 0, 0, 0), (10, .iload_n 0, 1, 0, 0, 0), (11, .bipush 7, 2, 0, 0, 0), (13, .if_icmp .eq 9, 3, 0, 0, 0), (16, .iload_n 0, 1, 0, 0, 0), (17, .bipush 8, 2, 0, 0, 0), (19, .if_icmp .ne 7, 3, 0, 0, 0), (22, .iconst 1, 1, 0, 0, 0), (23, .goto 4, 3, 0, 0, 0), (26, .iconst 0, 1, 0, 0, 0), (27, .ireturn, 1, 0, 0, 0)]
noncomputable def ij_t4 : List (Nat × ij_E) := [(0, .iload_n 0, 1, 0, 0, 0), (1, .iload_n 1, 1, 0, 0, 0), (2, .irem, 1, 0, 0, 0), (3, .istore_n 2, 1, 0, 0, 0), (4, .iload_n 0, 1, 0, 0, 0), (5, .iload_n 1, 1, 0, 0, 0), (6, .ixor, 1, 0, 0, 0), (7, .ifCond .ge 11, 3, 0, 0, 0), (10, .iload_n 2, 1, 0, 0, 0), (11, .ifCond .eq 7, 3, 0, 0, 0), (14, .iload_n 2, 1, 0, 0, 0), (15, .iload_n 1, 1, 0, 0, 0), (16, .iadd, 1, 0, 0, 0), (17, .ireturn, 1, 0, 0, 0), (18, .iload_n 2, 1, 0, 0, 0), (19, .ireturn, 1, 0, 0, 0)]
noncomputable def ij_t5 : List (Nat × ij_E) := [(0, .aload_n 0, 1, 0, 0, 0), (1, .getfield 9, 3, 4, 0, 0), (4, .iconst 1, 1, 0, 0, 0), (5, .iaload, 1, 0, 0, 0), (6, .istore_n 2, 1, 0, 0, 0), (7, .iload_n 2, 1, 0, 0, 0), (8, .ifCond .le 11, 3, 0, 0, 0), (11, .iload_n 1, 1, 0, 0, 0), (12, .iload_n 2, 1, 0, 0, 0), (13, .invokestatic 62, 3, 4, 2, 1), (16, .goto 4, 3, 0, 0, 0), (19, .iconst 0, 1, 0, 0, 0), (20, .ireturn, 1, 0, 0, 0)]
noncomputable def ij_t6 : List (Nat × ij_E) := [(0, .iload_n 0, 1, 0, 0, 0), (1, .ifCond .lt 15, 3, 0, 0, 0), (4, .iload_n 0, 1, 0, 0, 0), (5, .bipush 64, 2, 0, 0, 0), (7, .if_icmp .ge 9, 3, 0, 0, 0), (10, .lconst 1, 1, 0, 0, 0), (11, .iload_n 0, 1, 0, 0, 0), (12, .lshl, 1, 0, 0, 0), (13, .goto 4, 3, 0, 0, 0), (16, .lconst 0, 1, 0, 0, 0), (17, .lreturn, 1, 0, 0, 0)]
noncomputable def ij_t7 : List (Nat × ij_E) := [(0, .iload_n 0, 1, 0, 0, 0), (1, .invokestatic 9, 3, 6, 1, 1), (4, .lconst 1, 1, 0, 0, 0), (5, .lsub, 1, 0, 0, 0), (6, .lreturn, 1, 0, 0, 0)]
noncomputable def ij_t8 : List (Nat × ij_E) := [(0, .lconst 0, 1, 0, 0, 0), (1, .lstore 4, 2, 0, 0, 0), (3, .aload_n 0, 1, 0, 0, 0), (4, .iload_n 2, 1, 0, 0, 0), (5, .aload_n 0, 1, 0, 0, 0), (6, .getfield 9, 3, 4, 0, 0), (9, .iconst 4, 1, 0, 0, 0), (10, .iaload, 1, 0, 0, 0), (11, .iload_n 1, 1, 0, 0, 0), (12, .imul, 1, 0, 0, 0), (13, .isub, 1, 0, 0, 0), (14, .invokevirtual 48, 3, 5, 1, 14), (17, .istore 6, 2, 0, 0, 0), (19, .iconst 0, 1, 0, 0, 0), (20, .istore 7, 2, 0, 0, 0), (22, .iload 7, 2, 0, 0, 0), (24, .iload_n 3, 1, 0, 0, 0), (25, .if_icmp .ge 51, 3, 0, 0, 0), (28, .lload 4, 2, 0, 0, 0), (30, .iload 6, 2, 0, 0, 0), (32, .invokestatic 68, 3, 6, 1, 1), (35, .lor, 1, 0, 0, 0), (36, .lstore 4, 2, 0, 0, 0), (38, .iload 6, 2, 0, 0, 0), (40, .iload_n 1, 1, 0, 0, 0), (41, .iadd, 1, 0, 0, 0), (42, .istore 6, 2, 0, 0, 0), (44, .iload 6, 2, 0, 0, 0), (46, .iload 6, 2, 0, 0, 0), (48, .aload_n 0, 1, 0, 0, 0), (49, .getfield 9, 3, 4, 0, 0), (52, .iconst 1, 1, 0, 0, 0), (53, .iaload, 1, 0, 0, 0), (54, .if_icmp .lt 12, 3, 0, 0, 0), (57, .aload_n 0, 1, 0, 0, 0), (58, .getfield 9, 3, 4, 0, 0), (61, .iconst 1, 1, 0, 0, 0), (62, .iaload, 1, 0, 0, 0), (63, .goto 4, 3, 0, 0, 0), (66, .iconst 0, 1, 0, 0, 0), (67, .isub, 1, 0, 0, 0), (68, .istore 6, 2, 0, 0, 0), (70, .iinc 7 1, 3, 0, 0, 0), (73, .goto (-51), 3, 0, 0, 0), (76, .lload 4, 2, 0, 0, 0), (78, .lreturn, 1, 0, 0, 0)]
noncomputable def ij_t9 : List (Nat × ij_E) := [(0, .iconst 0, 1, 0, 0, 0), (1, .istore_n 1, 1, 0, 0, 0), (2, .iload_n 1, 1, 0, 0, 0), (3, .bipush 9, 2, 0, 0, 0), (5, .if_icmp .ge 32, 3, 0, 0, 0), (8, .iload_n 1, 1, 0, 0, 0), (9, .invokestatic 44, 3, 3, 1, 4), (12, .ifCond .eq 19, 3, 0, 0, 0), (15, .aload_n 0, 1, 0, 0, 0), (16, .getfield 9, 3, 4, 0, 0), (19, .iload_n 1, 1, 0, 0, 0), (20, .aload_n 0, 1, 0, 0, 0), (21, .aload_n 0, 1, 0, 0, 0), (22, .getfield 9, 3, 4, 0, 0), (25, .iload_n 1, 1, 0, 0, 0), (26, .iaload, 1, 0, 0, 0), (27, .invokevirtual 48, 3, 5, 1, 14), (30, .iastore, 1, 0, 0, 0), (31, .iinc 1 1, 3, 0, 0, 0), (34, .goto (-32), 3, 0, 0, 0), (37, .aload_n 0, 1, 0, 0, 0), (38, .dup, 1, 0, 0, 0), (39, .getfield 37, 3, 4, 3, 0), (42, .aload_n 0, 1, 0, 0, 0), (43, .getfield 9, 3, 4, 0, 0), (46, .iconst 1, 1, 0, 0, 0), (47, .iaload, 1, 0, 0, 0), (48, .invokestatic 52, 3, 7, 1, 1), (51, .land, 1, 0, 0, 0), (52, .putfield 37, 3, 4, 3, 0), (55, .aload_n 0, 1, 0, 0, 0), (56, .aload_n 0, 1, 0, 0, 0), (57, .aload_n 0, 1, 0, 0, 0), (58, .getfield 9, 3, 4, 0, 0), (61, .iconst 2, 1, 0, 0, 0), (62, .iaload, 1, 0, 0, 0), (63, .aload_n 0, 1, 0, 0, 0), (64, .getfield 9, 3, 4, 0, 0), (67, .iconst 5, 1, 0, 0, 0), (68, .iaload, 1, 0, 0, 0), (69, .aload_n 0, 1, 0, 0, 0), (70, .getfield 9, 3, 4, 0, 0), (73, .iconst 3, 1, 0, 0, 0), (74, .iaload, 1, 0, 0, 0), (75, .invokevirtual 58, 3, 8, 3, 14), (78, .putfield 41, 3, 4, 4, 0), (81, .return_, 1, 0, 0, 0)]
noncomputable def ij_t10 : List (Nat × ij_E) := [(0, .aload_n 0, 1, 0, 0, 0), (1, .invokespecial 3, 3, 999999, 0, 5), (4, .aload_n 0, 1, 0, 0, 0), (5, .bipush 9, 2, 0, 0, 0), (7, .newarray .int, 2, 0, 0, 0), (9, .putfield 9, 3, 4, 0, 0), (12, .aload_n 0, 1, 0, 0, 0), (13, .bipush 12, 2, 0, 0, 0), (15, .newarray .int, 2, 0, 0, 0), (17, .putfield 15, 3, 4, 1, 0), (20, .aload_n 0, 1, 0, 0, 0), (21, .invokevirtual 18, 3, 2, 0, 14), (24, .aload_n 0, 1, 0, 0, 0), (25, .invokevirtual 21, 3, 9, 0, 14), (28, .return_, 1, 0, 0, 0)]
noncomputable def ij_t11 : List (Nat × ij_E) := [(0, .aload_n 0, 1, 0, 0, 0), (1, .invokespecial 3, 3, 999999, 0, 5), (4, .aload_n 0, 1, 0, 0, 0), (5, .new 9, 3, 4, 5, 0), (8, .dup, 1, 0, 0, 0), (9, .invokespecial 11, 3, 10, 0, 2), (12, .putfield 12, 3, 5, 1, 0), (15, .aload_n 0, 1, 0, 0, 0), (16, .lconst 0, 1, 0, 0, 0), (17, .putfield 18, 3, 5, 2, 0), (20, .aload_n 0, 1, 0, 0, 0), (21, .aload_n 1, 1, 0, 0, 0), (22, .putfield 22, 3, 5, 0, 0), (25, .return_, 1, 0, 0, 0)]
noncomputable def ij_t12 : List (Nat × ij_E) := [(0, .aload_n 0, 1, 0, 0, 0), (1, .invokespecial 3, 3, 999999, 0, 5), (4, .aload_n 0, 1, 0, 0, 0), (5, .bipush 30, 2, 0, 0, 0), (7, .newarray .int, 2, 0, 0, 0), (9, .putfield 9, 3, 6, 0, 0), (12, .aload_n 0, 1, 0, 0, 0), (13, .bipush 30, 2, 0, 0, 0), (15, .newarray .int, 2, 0, 0, 0), (17, .putfield 15, 3, 6, 1, 0), (20, .aload_n 0, 1, 0, 0, 0), (21, .bipush 30, 2, 0, 0, 0), (23, .newarray .int, 2, 0, 0, 0), (25, .putfield 18, 3, 6, 2, 0), (28, .aload_n 0, 1, 0, 0, 0), (29, .bipush 30, 2, 0, 0, 0), (31, .newarray .int, 2, 0, 0, 0), (33, .putfield 21, 3, 6, 3, 0), (36, .aload_n 0, 1, 0, 0, 0), (37, .iconst 0, 1, 0, 0, 0), (38, .putfield 24, 3, 6, 4, 0), (41, .aload_n 0, 1, 0, 0, 0), (42, .iconst 0, 1, 0, 0, 0), (43, .putfield 28, 3, 6, 5, 0), (46, .return_, 1, 0, 0, 0)]
noncomputable def ij_t13 : List (Nat × ij_E) := [(0, .aload_n 0, 1, 0, 0, 0), (1, .invokespecial 3, 3, 999999, 0, 5), (4, .aload_n 0, 1, 0, 0, 0), (5, .new 9, 3, 6, 6, 0), (8, .dup, 1, 0, 0, 0), (9, .invokespecial 11, 3, 12, 0, 3), (12, .putfield 12, 3, 7, 1, 0), (15, .aload_n 0, 1, 0, 0, 0), (16, .iconst 3, 1, 0, 0, 0), (17, .newarray .int, 2, 0, 0, 0), (19, .putfield 18, 3, 7, 2, 0), (22, .aload_n 0, 1, 0, 0, 0), (23, .iconst 0, 1, 0, 0, 0), (24, .putfield 22, 3, 7, 3, 0), (27, .aload_n 0, 1, 0, 0, 0), (28, .aload_n 1, 1, 0, 0, 0), (29, .putfield 26, 3, 7, 0, 0), (32, .return_, 1, 0, 0, 0)]
noncomputable def ij_t14 : List (Nat × ij_E) := [(0, .aload_n 0, 1, 0, 0, 0), (1, .invokespecial 3, 3, 999999, 0, 5), (4, .aload_n 0, 1, 0, 0, 0), (5, .bipush 60, 2, 0, 0, 0), (7, .newarray .int, 2, 0, 0, 0), (9, .putfield 9, 3, 3, 0, 0), (12, .return_, 1, 0, 0, 0)]
noncomputable def ij_t15 : List (Nat × ij_E) := [(0, .aload_n 0, 1, 0, 0, 0), (1, .invokespecial 3, 3, 999999, 0, 5), (4, .aload_n 0, 1, 0, 0, 0), (5, .bipush 60, 2, 0, 0, 0), (7, .newarray .long, 2, 0, 0, 0), (9, .putfield 9, 3, 0, 0, 0), (12, .return_, 1, 0, 0, 0)]
noncomputable def ij_t16 : List (Nat × ij_E) := [(0, .aload_n 0, 1, 0, 0, 0), (1, .invokespecial 3, 3, 999999, 0, 5), (4, .aload_n 0, 1, 0, 0, 0), (5, .bipush 7, 2, 0, 0, 0), (7, .newarray .int, 2, 0, 0, 0), (9, .putfield 9, 3, 9, 0, 0), (12, .aload_n 0, 1, 0, 0, 0), (13, .bipush 7, 2, 0, 0, 0), (15, .newarray .int, 2, 0, 0, 0), (17, .putfield 15, 3, 9, 1, 0), (20, .aload_n 0, 1, 0, 0, 0), (21, .sipush 896, 3, 0, 0, 0), (24, .newarray .int, 2, 0, 0, 0), (26, .putfield 18, 3, 9, 2, 0), (29, .return_, 1, 0, 0, 0)]
noncomputable def ij_t17 : List (Nat × ij_E) := [(0, .aload_n 0, 1, 0, 0, 0), (1, .invokespecial 3, 3, 999999, 0, 5), (4, .aload_n 0, 1, 0, 0, 0), (5, .iconst 0, 1, 0, 0, 0), (6, .putfield 9, 3, 1, 2, 0), (9, .aload_n 0, 1, 0, 0, 0), (10, .iconst 0, 1, 0, 0, 0), (11, .putfield 15, 3, 1, 3, 0), (14, .aload_n 0, 1, 0, 0, 0), (15, .iconst 0, 1, 0, 0, 0), (16, .putfield 18, 3, 1, 4, 0), (19, .aload_n 0, 1, 0, 0, 0), (20, .iconst 3, 1, 0, 0, 0), (21, .newarray .int, 2, 0, 0, 0), (23, .putfield 22, 3, 1, 5, 0), (26, .aload_n 0, 1, 0, 0, 0), (27, .iconst 3, 1, 0, 0, 0), (28, .newarray .int, 2, 0, 0, 0), (30, .putfield 26, 3, 1, 6, 0), (33, .aload_n 0, 1, 0, 0, 0), (34, .iconst 0, 1, 0, 0, 0), (35, .putfield 29, 3, 1, 7, 0), (38, .aload_n 0, 1, 0, 0, 0), (39, .iconst 0, 1, 0, 0, 0), (40, .putfield 32, 3, 1, 8, 0), (43, .aload_n 0, 1, 0, 0, 0), (44, .iconst 0, 1, 0, 0, 0), (45, .putfield 35, 3, 1, 9, 0), (48, .aload_n 0, 1, 0, 0, 0), (49, .iconst 0, 1, 0, 0, 0), (50, .putfield 38, 3, 1, 10, 0), (53, .aload_n 0, 1, 0, 0, 0), (54, .iconst 0, 1, 0, 0, 0), (55, .putfield 41, 3, 1, 11, 0), (58, .aload_n 0, 1, 0, 0, 0), (59, .iconst 0, 1, 0, 0, 0), (60, .putfield 44, 3, 1, 12, 0), (63, .aload_n 0, 1, 0, 0, 0), (64, .iconst 0, 1, 0, 0, 0), (65, .putfield 47, 3, 1, 13, 0), (68, .aload_n 0, 1, 0, 0, 0), (69, .iconst 0, 1, 0, 0, 0), (70, .putfield 50, 3, 1, 14, 0), (73, .aload_n 0, 1, 0, 0, 0), (74, .bipush 60, 2, 0, 0, 0), (76, .newarray .int, 2, 0, 0, 0), (78, .putfield 53, 3, 1, 15, 0), (81, .aload_n 0, 1, 0, 0, 0), (82, .aload_n 1, 1, 0, 0, 0), (83, .putfield 56, 3, 1, 0, 0), (86, .aload_n 0, 1, 0, 0, 0), (87, .aload_n 2, 1, 0, 0, 0), (88, .putfield 60, 3, 1, 1, 0), (91, .return_, 1, 0, 0, 0)]
noncomputable def ij_t18 : List (Nat × ij_E) := [(0, .aload_n 0, 1, 0, 0, 0), (1, .invokespecial 1, 3, 999999, 0, 5), (4, .aload_n 0, 1, 0, 0, 0), (5, .iconst 0, 1, 0, 0, 0), (6, .putfield 7, 3, 10, 0, 0), (9, .aload_n 0, 1, 0, 0, 0), (10, .lconst 0, 1, 0, 0, 0), (11, .putfield 13, 3, 10, 1, 0), (14, .aload_n 0, 1, 0, 0, 0), (15, .lconst 1, 1, 0, 0, 0), (16, .putfield 17, 3, 10, 2, 0), (19, .aload_n 0, 1, 0, 0, 0), (20, .iconst 4, 1, 0, 0, 0), (21, .anewarray 20, 3, 104, 0, 0), (24, .putfield 22, 3, 10, 3, 0), (27, .iconst 0, 1, 0, 0, 0), (28, .istore_n 1, 1, 0, 0, 0), (29, .iload_n 1, 1, 0, 0, 0), (30, .aload_n 0, 1, 0, 0, 0), (31, .getfield 22, 3, 10, 3, 0), (34, .arraylength, 1, 0, 0, 0), (35, .if_icmp .ge 22, 3, 0, 0, 0), (38, .aload_n 0, 1, 0, 0, 0), (39, .getfield 22, 3, 10, 3, 0), (42, .iload_n 1, 1, 0, 0, 0), (43, .new 20, 3, 8, 3, 0), (46, .dup, 1, 0, 0, 0), (47, .invokespecial 26, 3, 0, 0, 3), (50, .aastore, 1, 0, 0, 0), (51, .iinc 1 1, 3, 0, 0, 0), (54, .goto (-25), 3, 0, 0, 0), (57, .aload_n 0, 1, 0, 0, 0), (58, .new 27, 3, 2, 9, 0), (61, .dup, 1, 0, 0, 0), (62, .invokespecial 29, 3, 1, 0, 3), (65, .putfield 30, 3, 10, 4, 0), (68, .aload_n 0, 1, 0, 0, 0), (69, .new 34, 3, 5, 3, 0), (72, .dup, 1, 0, 0, 0), (73, .aload_n 0, 1, 0, 0, 0), (74, .getfield 30, 3, 10, 4, 0), (77, .invokespecial 36, 3, 11, 1, 2), (80, .putfield 39, 3, 10, 5, 0), (83, .aload_n 0, 1, 0, 0, 0), (84, .new 43, 3, 7, 4, 0), (87, .dup, 1, 0, 0, 0), (88, .aload_n 0, 1, 0, 0, 0), (89, .getfield 30, 3, 10, 4, 0), (92, .invokespecial 45, 3, 13, 1, 2), (95, .putfield 46, 3, 10, 6, 0), (98, .aload_n 0, 1, 0, 0, 0), (99, .new 50, 3, 4, 5, 0), (102, .dup, 1, 0, 0, 0), (103, .invokespecial 52, 3, 10, 0, 2), (106, .putfield 53, 3, 10, 7, 0), (109, .aload_n 0, 1, 0, 0, 0), (110, .new 57, 3, 6, 6, 0), (113, .dup, 1, 0, 0, 0), (114, .invokespecial 59, 3, 12, 0, 3), (117, .putfield 60, 3, 10, 8, 0), (120, .aload_n 0, 1, 0, 0, 0), (121, .new 64, 3, 3, 4, 0), (124, .dup, 1, 0, 0, 0), (125, .invokespecial 66, 3, 14, 0, 3), (128, .putfield 67, 3, 10, 9, 0), (131, .aload_n 0, 1, 0, 0, 0), (132, .new 71, 3, 0, 2, 0), (135, .dup, 1, 0, 0, 0), (136, .invokespecial 73, 3, 15, 0, 3), (139, .putfield 74, 3, 10, 10, 0), (142, .aload_n 0, 1, 0, 0, 0), (143, .new 78, 3, 9, 5, 0), (146, .dup, 1, 0, 0, 0), (147, .invokespecial 80, 3, 16, 0, 3), (150, .putfield 81, 3, 10, 11, 0), (153, .aload_n 0, 1, 0, 0, 0), (154, .bipush 60, 2, 0, 0, 0), (156, .newarray .long, 2, 0, 0, 0), (158, .putfield 85, 3, 10, 12, 0), (161, .aload_n 0, 1, 0, 0, 0), (162, .new 89, 3, 1, 16, 0), (165, .dup, 1, 0, 0, 0), (166, .aload_n 0, 1, 0, 0, 0), (167, .getfield 53, 3, 10, 7, 0), (170, .aload_n 0, 1, 0, 0, 0), (171, .getfield 60, 3, 10, 8, 0), (174, .invokespecial 91, 3, 17, 2, 2), (177, .putfield 94, 3, 10, 13, 0), (180, .aload_n 0, 1, 0, 0, 0), (181, .new 50, 3, 4, 5, 0), (184, .dup, 1, 0, 0, 0), (185, .invokespecial 52, 3, 10, 0, 2), (188, .putfield 98, 3, 10, 14, 0), (191, .aload_n 0, 1, 0, 0, 0), (192, .new 89, 3, 1, 16, 0), (195, .dup, 1, 0, 0, 0), (196, .aload_n 0, 1, 0, 0, 0), (197, .getfield 98, 3, 10, 14, 0), (200, .aload_n 0, 1, 0, 0, 0), (201, .getfield 60, 3, 10, 8, 0), (204, .invokespecial 91, 3, 17, 2, 2), (207, .putfield 101, 3, 10, 15, 0), (210, .aload_n 0, 1, 0, 0, 0), (211, .iconst 3, 1, 0, 0, 0), (212, .anewarray 50, 3, 105, 0, 0), (215, .putfield 104, 3, 10, 16, 0), (218, .aload_n 0, 1, 0, 0, 0), (219, .iconst 3, 1, 0, 0, 0), (220, .anewarray 57, 3, 106, 0, 0), (223, .putfield 108, 3, 10, 17, 0), (226, .iconst 0, 1, 0, 0, 0), (227, .istore_n 1, 1, 0, 0, 0), (228, .iload_n 1, 1, 0, 0, 0), (229, .iconst 3, 1, 0, 0, 0), (230, .if_icmp .ge 35, 3, 0, 0, 0), (233, .aload_n 0, 1, 0, 0, 0), (234, .getfield 104, 3, 10, 16, 0), (237, .iload_n 1, 1, 0, 0, 0), (238, .new 50, 3, 4, 5, 0), (241, .dup, 1, 0, 0, 0), (242, .invokespecial 52, 3, 10, 0, 2), (245, .aastore, 1, 0, 0, 0), (246, .aload_n 0, 1, 0, 0, 0), (247, .getfield 108, 3, 10, 17, 0), (250, .iload_n 1, 1, 0, 0, 0), (251, .new 57, 3, 6, 6, 0), (254, .dup, 1, 0, 0, 0), (255, .invokespecial 59, 3, 12, 0, 3), (258, .aastore, 1, 0, 0, 0), (259, .iinc 1 1, 3, 0, 0, 0), (262, .goto (-34), 3, 0, 0, 0), (265, .aload_n 0, 1, 0, 0, 0), (266, .iconst 0, 1, 0, 0, 0), (267, .putfield 112, 3, 10, 18, 0), (270, .return_, 1, 0, 0, 0)]
noncomputable def ij_t19 : List (Nat × ij_E) := [(0, .iconst 0, 1, 0, 0, 0), (1, .istore_n 2, 1, 0, 0, 0), (2, .iload_n 2, 1, 0, 0, 0), (3, .sipush 460, 3, 0, 0, 0), (6, .if_icmp .ge 18, 3, 0, 0, 0), (9, .aload_n 0, 1, 0, 0, 0), (10, .getfield 7, 3, 11, 0, 0), (13, .iload_n 1, 1, 0, 0, 0), (14, .iload_n 2, 1, 0, 0, 0), (15, .iadd, 1, 0, 0, 0), (16, .iconst 0, 1, 0, 0, 0), (17, .iastore, 1, 0, 0, 0), (18, .iinc 2 1, 3, 0, 0, 0), (21, .goto (-19), 3, 0, 0, 0), (24, .aload_n 0, 1, 0, 0, 0), (25, .getfield 7, 3, 11, 0, 0), (28, .iload_n 1, 1, 0, 0, 0), (29, .iconst 0, 1, 0, 0, 0), (30, .iadd, 1, 0, 0, 0), (31, .iconst 4, 1, 0, 0, 0), (32, .iastore, 1, 0, 0, 0), (33, .aload_n 0, 1, 0, 0, 0), (34, .getfield 7, 3, 11, 0, 0), (37, .iload_n 1, 1, 0, 0, 0), (38, .iconst 1, 1, 0, 0, 0), (39, .iadd, 1, 0, 0, 0), (40, .bipush 12, 2, 0, 0, 0), (42, .iastore, 1, 0, 0, 0), (43, .aload_n 0, 1, 0, 0, 0), (44, .getfield 7, 3, 11, 0, 0), (47, .iload_n 1, 1, 0, 0, 0), (48, .iconst 2, 1, 0, 0, 0), (49, .iadd, 1, 0, 0, 0), (50, .bipush 7, 2, 0, 0, 0), (52, .iastore, 1, 0, 0, 0), (53, .aload_n 0, 1, 0, 0, 0), (54, .getfield 7, 3, 11, 0, 0), (57, .iload_n 1, 1, 0, 0, 0), (58, .iconst 3, 1, 0, 0, 0), (59, .iadd, 1, 0, 0, 0), (60, .bipush 7, 2, 0, 0, 0), (62, .iastore, 1, 0, 0, 0), (63, .aload_n 0, 1, 0, 0, 0), (64, .getfield 7, 3, 11, 0, 0), (67, .iload_n 1, 1, 0, 0, 0), (68, .bipush 6, 2, 0, 0, 0), (70, .iadd, 1, 0, 0, 0), (71, .bipush 7, 2, 0, 0, 0), (73, .iastore, 1, 0, 0, 0), (74, .aload_n 0, 1, 0, 0, 0), (75, .getfield 7, 3, 11, 0, 0), (78, .iload_n 1, 1, 0, 0, 0), (79, .bipush 7, 2, 0, 0, 0), (81, .iadd, 1, 0, 0, 0), (82, .iconst 2, 1, 0, 0, 0), (83, .iastore, 1, 0, 0, 0), (84, .aload_n 0, 1, 0, 0, 0), (85, .getfield 7, 3, 11, 0, 0), (88, .iload_n 1, 1, 0, 0, 0), (89, .bipush 8, 2, 0, 0, 0), (91, .iadd, 1, 0, 0, 0), (92, .iconst 1, 1, 0, 0, 0), (93, .iastore, 1, 0, 0, 0), (94, .aload_n 0, 1, 0, 0, 0), (95, .getfield 7, 3, 11, 0, 0), (98, .iload_n 1, 1, 0, 0, 0), (99, .bipush 10, 2, 0, 0, 0), (101, .iadd, 1, 0, 0, 0), (102, .iconst (-1), 1, 0, 0, 0), (103, .iastore, 1, 0, 0, 0), (104, .return_, 1, 0, 0, 0)]
noncomputable def ij_t20 : List (Nat × ij_E) := [(0, .aload_n 0, 1, 0, 0, 0), (1, .invokespecial 1, 3, 999999, 0, 5), (4, .aload_n 0, 1, 0, 0, 0), (5, .sipush 2392, 3, 0, 0, 0), (8, .newarray .int, 2, 0, 0, 0), (10, .putfield 7, 3, 11, 0, 0), (13, .aload_n 0, 1, 0, 0, 0), (14, .lconst 1, 1, 0, 0, 0), (15, .putfield 13, 3, 11, 3, 0), (18, .aload_n 0, 1, 0, 0, 0), (19, .iconst 4, 1, 0, 0, 0), (20, .newarray .int, 2, 0, 0, 0), (22, .putfield 17, 3, 11, 4, 0), (25, .aload_n 0, 1, 0, 0, 0), (26, .iconst 4, 1, 0, 0, 0), (27, .newarray .int, 2, 0, 0, 0), (29, .dup, 1, 0, 0, 0), (30, .iconst 0, 1, 0, 0, 0), (31, .iconst (-1), 1, 0, 0, 0), (32, .iastore, 1, 0, 0, 0), (33, .dup, 1, 0, 0, 0), (34, .iconst 1, 1, 0, 0, 0), (35, .iconst (-1), 1, 0, 0, 0), (36, .iastore, 1, 0, 0, 0), (37, .dup, 1, 0, 0, 0), (38, .iconst 2, 1, 0, 0, 0), (39, .iconst (-1), 1, 0, 0, 0), (40, .iastore, 1, 0, 0, 0), (41, .dup, 1, 0, 0, 0), (42, .iconst 3, 1, 0, 0, 0), (43, .iconst (-1), 1, 0, 0, 0), (44, .iastore, 1, 0, 0, 0), (45, .putfield 20, 3, 11, 5, 0), (48, .aload_n 0, 1, 0, 0, 0), (49, .sipush 240, 3, 0, 0, 0), (52, .newarray .long, 2, 0, 0, 0), (54, .putfield 23, 3, 11, 6, 0), (57, .aload_n 0, 1, 0, 0, 0), (58, .sipush 900, 3, 0, 0, 0), (61, .newarray .byte, 2, 0, 0, 0), (63, .putfield 27, 3, 11, 7, 0), (66, .aload_n 0, 1, 0, 0, 0), (67, .sipush 900, 3, 0, 0, 0), (70, .newarray .byte, 2, 0, 0, 0), (72, .putfield 31, 3, 11, 8, 0), (75, .aload_n 0, 1, 0, 0, 0), (76, .iconst (-1), 1, 0, 0, 0), (77, .putfield 34, 3, 11, 15, 0), (80, .aload_n 0, 1, 0, 0, 0), (81, .iconst (-1), 1, 0, 0, 0), (82, .putfield 38, 3, 11, 16, 0), (85, .aload_n 0, 1, 0, 0, 0), (86, .iconst 3, 1, 0, 0, 0), (87, .newarray .int, 2, 0, 0, 0), (89, .putfield 41, 3, 11, 19, 0), (92, .aload_n 0, 1, 0, 0, 0), (93, .bipush 24, 2, 0, 0, 0), (95, .newarray .int, 2, 0, 0, 0), (97, .putfield 44, 3, 11, 22, 0), (100, .aload_n 0, 1, 0, 0, 0), (101, .bipush 24, 2, 0, 0, 0), (103, .newarray .int, 2, 0, 0, 0), (105, .putfield 47, 3, 11, 23, 0), (108, .aload_n 0, 1, 0, 0, 0), (109, .bipush 60, 2, 0, 0, 0), (111, .newarray .int, 2, 0, 0, 0), (113, .putfield 50, 3, 11, 24, 0), (116, .aload_n 0, 1, 0, 0, 0), (117, .bipush 24, 2, 0, 0, 0), (119, .newarray .int, 2, 0, 0, 0), (121, .putfield 53, 3, 11, 25, 0), (124, .aload_n 0, 1, 0, 0, 0), (125, .bipush 60, 2, 0, 0, 0), (127, .newarray .boolean, 2, 0, 0, 0), (129, .putfield 56, 3, 11, 30, 0), (132, .aload_n 0, 1, 0, 0, 0), (133, .bipush 7, 2, 0, 0, 0), (135, .newarray .int, 2, 0, 0, 0), (137, .putfield 60, 3, 11, 31, 0), (140, .aload_n 0, 1, 0, 0, 0), (141, .bipush 8, 2, 0, 0, 0), (143, .newarray .int, 2, 0, 0, 0), (145, .putfield 63, 3, 11, 32, 0), (148, .aload_n 0, 1, 0, 0, 0), (149, .bipush 8, 2, 0, 0, 0), (151, .newarray .int, 2, 0, 0, 0), (153, .putfield 66, 3, 11, 33, 0), (156, .aload_n 0, 1, 0, 0, 0), (157, .bipush 7, 2, 0, 0, 0), (159, .newarray .int, 2, 0, 0, 0), (161, .putfield 69, 3, 11, 34, 0), (164, .aload_n 0, 1, 0, 0, 0), (165, .sipush 3600, 3, 0, 0, 0), (168, .newarray .boolean, 2, 0, 0, 0), (170, .putfield 72, 3, 11, 37, 0), (173, .aload_n 0, 1, 0, 0, 0), (174, .bipush 60, 2, 0, 0, 0), (176, .newarray .boolean, 2, 0, 0, 0), (178, .putfield 75, 3, 11, 38, 0), (181, .aload_n 0, 1, 0, 0, 0), (182, .sipush 3600, 3, 0, 0, 0), (185, .newarray .boolean, 2, 0, 0, 0), (187, .putfield 78, 3, 11, 39, 0), (190, .aload_n 0, 1, 0, 0, 0), (191, .bipush 60, 2, 0, 0, 0), (193, .newarray .long, 2, 0, 0, 0), (195, .putfield 81, 3, 11, 40, 0), (198, .aload_n 0, 1, 0, 0, 0), (199, .bipush 60, 2, 0, 0, 0), (201, .newarray .long, 2, 0, 0, 0), (203, .putfield 84, 3, 11, 41, 0), (206, .aload_n 0, 1, 0, 0, 0), (207, .bipush 13, 2, 0, 0, 0), (209, .newarray .long, 2, 0, 0, 0), (211, .putfield 87, 3, 11, 42, 0), (214, .aload_n 0, 1, 0, 0, 0), (215, .bipush 80, 2, 0, 0, 0), (217, .newarray .int, 2, 0, 0, 0), (219, .putfield 90, 3, 11, 48, 0), (222, .aload_n 0, 1, 0, 0, 0), (223, .iconst 5, 1, 0, 0, 0), (224, .newarray .int, 2, 0, 0, 0), (226, .putfield 93, 3, 11, 49, 0), (229, .aload_n 0, 1, 0, 0, 0), (230, .iconst 5, 1, 0, 0, 0), (231, .newarray .int, 2, 0, 0, 0), (233, .putfield 96, 3, 11, 50, 0), (236, .aload_n 0, 1, 0, 0, 0), (237, .iconst 4, 1, 0, 0, 0), (238, .newarray .int, 2, 0, 0, 0), (240, .putfield 99, 3, 11, 51, 0), (243, .aload_n 0, 1, 0, 0, 0), (244, .bipush 60, 2, 0, 0, 0), (246, .newarray .int, 2, 0, 0, 0), (248, .putfield 102, 3, 11, 52, 0), (251, .aload_n 0, 1, 0, 0, 0), (252, .bipush 60, 2, 0, 0, 0), (254, .newarray .int, 2, 0, 0, 0), (256, .putfield 105, 3, 11, 53, 0), (259, .aload_n 0, 1, 0, 0, 0), (260, .iconst 0, 1, 0, 0, 0), (261, .invokevirtual 108, 3, 19, 1, 21), (264, .return_, 1, 0, 0, 0)]
noncomputable def ij_t21 : List (Nat × ij_E) := [(0, .aload_n 0, 1, 0, 0, 0), (1, .getfield 7, 3, 10, 0, 0), (4, .ireturn, 1, 0, 0, 0)]
noncomputable def ij_t22 : List (Nat × ij_E) := [(0, .aload_n 0, 1, 0, 0, 0), (1, .getfield 112, 3, 11, 1, 0), (4, .ireturn, 1, 0, 0, 0)]
noncomputable def ij_t23 : List (Nat × ij_E) := [(0, .aload_n 0, 1, 0, 0, 0), (1, .getfield 13, 3, 10, 1, 0), (4, .lreturn, 1, 0, 0, 0)]
noncomputable def ij_t24 : List (Nat × ij_E) := [(0, .aload_n 0, 1, 0, 0, 0), (1, .getfield 115, 3, 11, 2, 0), (4, .lreturn, 1, 0, 0, 0)]
noncomputable def ij_t25 : List (Nat × ij_E) := [(0, .aload_n 0, 1, 0, 0, 0), (1, .getfield 17, 3, 10, 2, 0), (4, .lreturn, 1, 0, 0, 0)]
noncomputable def ij_t26 : List (Nat × ij_E) := [(0, .aload_n 0, 1, 0, 0, 0), (1, .getfield 13, 3, 11, 3, 0), (4, .lreturn, 1, 0, 0, 0)]
noncomputable def ij_t27 : List (Nat × ij_E) := [(0, .iload_n 1, 1, 0, 0, 0), (1, .ifCond .lt 21, 3, 0, 0, 0), (4, .iload_n 1, 1, 0, 0, 0), (5, .aload_n 0, 1, 0, 0, 0), (6, .getfield 22, 3, 10, 3, 0), (9, .arraylength, 1, 0, 0, 0), (10, .if_icmp .ge 12, 3, 0, 0, 0), (13, .aload_n 0, 1, 0, 0, 0), (14, .getfield 22, 3, 10, 3, 0), (17, .iload_n 1, 1, 0, 0, 0), (18, .aaload, 1, 0, 0, 0), (19, .goto 4, 3, 0, 0, 0), (22, .aconst_null, 1, 0, 0, 0), (23, .areturn, 1, 0, 0, 0)]
noncomputable def ij_t28 : List (Nat × ij_E) := [(0, .aload_n 0, 1, 0, 0, 0), (1, .iload_n 1, 1, 0, 0, 0), (2, .putfield 7, 3, 10, 0, 0), (5, .iconst 0, 1, 0, 0, 0), (6, .ireturn, 1, 0, 0, 0)]
noncomputable def ij_t29 : List (Nat × ij_E) := [(0, .aload_n 0, 1, 0, 0, 0), (1, .iload_n 1, 1, 0, 0, 0), (2, .putfield 15, 3, 8, 1, 0), (5, .aload_n 0, 1, 0, 0, 0), (6, .iload_n 2, 1, 0, 0, 0), (7, .putfield 19, 3, 8, 2, 0), (10, .iconst 0, 1, 0, 0, 0), (11, .istore_n 3, 1, 0, 0, 0), (12, .iload_n 3, 1, 0, 0, 0), (13, .aload_n 0, 1, 0, 0, 0), (14, .getfield 9, 3, 8, 0, 0), (17, .arraylength, 1, 0, 0, 0), (18, .if_icmp .ge 16, 3, 0, 0, 0), (21, .aload_n 0, 1, 0, 0, 0), (22, .getfield 9, 3, 8, 0, 0), (25, .iload_n 3, 1, 0, 0, 0), (26, .lconst 0, 1, 0, 0, 0), (27, .lastore, 1, 0, 0, 0), (28, .iinc 3 1, 3, 0, 0, 0), (31, .goto (-19), 3, 0, 0, 0), (34, .return_, 1, 0, 0, 0)]
noncomputable def ij_t30 : List (Nat × ij_E) := [(0, .aload_n 0, 1, 0, 0, 0), (1, .iconst 0, 1, 0, 0, 0), (2, .putfield 7, 3, 10, 0, 0), (5, .iconst 1, 1, 0, 0, 0), (6, .ireturn, 1, 0, 0, 0)]
noncomputable def ij_t31 : List (Nat × ij_E) := [(0, .aload_n 0, 1, 0, 0, 0), (1, .iload_n 1, 1, 0, 0, 0), (2, .invokevirtual 115, 3, 27, 1, 20), (5, .astore 4, 2, 0, 0, 0), (7, .aload 4, 2, 0, 0, 0), (9, .ifnull 22, 3, 0, 0, 0), (12, .iload_n 2, 1, 0, 0, 0), (13, .ifCond .lt 18, 3, 0, 0, 0), (16, .iload_n 2, 1, 0, 0, 0), (17, .iconst 3, 1, 0, 0, 0), (18, .if_icmp .gt 13, 3, 0, 0, 0), (21, .iload_n 3, 1, 0, 0, 0), (22, .ifCond .lt 9, 3, 0, 0, 0), (25, .iload_n 3, 1, 0, 0, 0), (26, .bipush 60, 2, 0, 0, 0), (28, .if_icmp .le 9, 3, 0, 0, 0), (31, .aload_n 0, 1, 0, 0, 0), (32, .iconst 1, 1, 0, 0, 0), (33, .invokevirtual 119, 3, 28, 1, 20), (36, .ireturn, 1, 0, 0, 0), (37, .aload 4, 2, 0, 0, 0), (39, .iload_n 2, 1, 0, 0, 0), (40, .iload_n 3, 1, 0, 0, 0), (41, .invokevirtual 123, 3, 29, 2, 18), (44, .aload_n 0, 1, 0, 0, 0), (45, .invokevirtual 127, 3, 30, 0, 20), (48, .ireturn, 1, 0, 0, 0)]
noncomputable def ij_t32 : List (Nat × ij_E) := [(0, .iload_n 0, 1, 0, 0, 0), (1, .ifCond .lt 12, 3, 0, 0, 0), (4, .iload_n 0, 1, 0, 0, 0), (5, .iconst 4, 1, 0, 0, 0), (6, .if_icmp .ge 7, 3, 0, 0, 0), (9, .iconst 1, 1, 0, 0, 0), (10, .goto 4, 3, 0, 0, 0), (13, .iconst 0, 1, 0, 0, 0), (14, .ireturn, 1, 0, 0, 0)]
noncomputable def ij_t33 : List (Nat × ij_E) := [(0, .aload_n 0, 1, 0, 0, 0), (1, .iload_n 1, 1, 0, 0, 0), (2, .putfield 112, 3, 11, 1, 0), (5, .iload_n 1, 1, 0, 0, 0), (6, .ifCond .ne 7, 3, 0, 0, 0), (9, .iconst 1, 1, 0, 0, 0), (10, .goto 4, 3, 0, 0, 0), (13, .iconst 0, 1, 0, 0, 0), (14, .ireturn, 1, 0, 0, 0)]
noncomputable def ij_t34 : List (Nat × ij_E) := [(0, .iload_n 1, 1, 0, 0, 0), (1, .invokestatic 129, 3, 32, 1, 1), (4, .ifCond .eq 22, 3, 0, 0, 0), (7, .iload_n 2, 1, 0, 0, 0), (8, .ifCond .lt 18, 3, 0, 0, 0), (11, .iload_n 2, 1, 0, 0, 0), (12, .iconst 3, 1, 0, 0, 0), (13, .if_icmp .gt 13, 3, 0, 0, 0), (16, .iload_n 3, 1, 0, 0, 0), (17, .ifCond .lt 9, 3, 0, 0, 0), (20, .iload_n 3, 1, 0, 0, 0), (21, .bipush 60, 2, 0, 0, 0), (23, .if_icmp .le 9, 3, 0, 0, 0), (26, .aload_n 0, 1, 0, 0, 0), (27, .iconst 1, 1, 0, 0, 0), (28, .invokevirtual 125, 3, 33, 1, 21), (31, .ireturn, 1, 0, 0, 0), (32, .aload_n 0, 1, 0, 0, 0), (33, .getfield 17, 3, 11, 4, 0), (36, .iload_n 1, 1, 0, 0, 0), (37, .iload_n 2, 1, 0, 0, 0), (38, .iastore, 1, 0, 0, 0), (39, .aload_n 0, 1, 0, 0, 0), (40, .getfield 20, 3, 11, 5, 0), (43, .iload_n 1, 1, 0, 0, 0), (44, .iload_n 3, 1, 0, 0, 0), (45, .iastore, 1, 0, 0, 0), (46, .iconst 0, 1, 0, 0, 0), (47, .istore 4, 2, 0, 0, 0), (49, .iload 4, 2, 0, 0, 0), (51, .iload_n 3, 1, 0, 0, 0), (52, .if_icmp .ge 22, 3, 0, 0, 0), (55, .aload_n 0, 1, 0, 0, 0), (56, .getfield 23, 3, 11, 6, 0), (59, .bipush 60, 2, 0, 0, 0), (61, .iload_n 1, 1, 0, 0, 0), (62, .imul, 1, 0, 0, 0), (63, .iload 4, 2, 0, 0, 0), (65, .iadd, 1, 0, 0, 0), (66, .lconst 0, 1, 0, 0, 0), (67, .lastore, 1, 0, 0, 0), (68, .iinc 4 1, 3, 0, 0, 0), (71, .goto (-22), 3, 0, 0, 0), (74, .aload_n 0, 1, 0, 0, 0), (75, .iconst 0, 1, 0, 0, 0), (76, .invokevirtual 125, 3, 33, 1, 21), (79, .ireturn, 1, 0, 0, 0)]
noncomputable def ij_t35 : List (Nat × ij_E) := [(0, .aload_n 0, 1, 0, 0, 0), (1, .getfield 19, 3, 8, 2, 0), (4, .iconst (-1), 1, 0, 0, 0), (5, .if_icmp .ne 7, 3, 0, 0, 0), (8, .iconst 1, 1, 0, 0, 0), (9, .goto 4, 3, 0, 0, 0), (12, .iconst 0, 1, 0, 0, 0), (13, .ireturn, 1, 0, 0, 0)]
noncomputable def ij_t36 : List (Nat × ij_E) := [(0, .iload_n 1, 1, 0, 0, 0), (1, .ifCond .lt 24, 3, 0, 0, 0), (4, .iload_n 1, 1, 0, 0, 0), (5, .aload_n 0, 1, 0, 0, 0), (6, .getfield 19, 3, 8, 2, 0), (9, .if_icmp .ge 16, 3, 0, 0, 0), (12, .iload_n 1, 1, 0, 0, 0), (13, .aload_n 0, 1, 0, 0, 0), (14, .getfield 9, 3, 8, 0, 0), (17, .arraylength, 1, 0, 0, 0), (18, .if_icmp .ge 7, 3, 0, 0, 0), (21, .iconst 1, 1, 0, 0, 0), (22, .goto 4, 3, 0, 0, 0), (25, .iconst 0, 1, 0, 0, 0), (26, .ireturn, 1, 0, 0, 0)]
noncomputable def ij_t37 : List (Nat × ij_E) := [(0, .aload_n 0, 1, 0, 0, 0), (1, .ifnonnull 5, 3, 0, 0, 0), (4, .iconst 1, 1, 0, 0, 0), (5, .ireturn, 1, 0, 0, 0), (6, .aload_n 0, 1, 0, 0, 0), (7, .invokevirtual 147, 3, 35, 0, 18), (10, .ifCond .eq 5, 3, 0, 0, 0), (13, .iconst 2, 1, 0, 0, 0), (14, .ireturn, 1, 0, 0, 0), (15, .aload_n 0, 1, 0, 0, 0), (16, .iload_n 1, 1, 0, 0, 0), (17, .invokevirtual 393, 3, 36, 1, 18), (20, .ifCond .eq 7, 3, 0, 0, 0), (23, .iconst 0, 1, 0, 0, 0), (24, .goto 4, 3, 0, 0, 0), (27, .iconst 3, 1, 0, 0, 0), (28, .ireturn, 1, 0, 0, 0)]
noncomputable def ij_t38 : List (Nat × ij_E) := [(0, .aload_n 0, 1, 0, 0, 0), (1, .getfield 15, 3, 8, 1, 0), (4, .tableswitch 42 0 2 #[28, 33, 38], 28, 0, 0, 0), (32, .lload_n 1, 1, 0, 0, 0), (33, .l2i, 1, 0, 0, 0), (34, .i2b, 1, 0, 0, 0), (35, .i2l, 1, 0, 0, 0), (36, .lreturn, 1, 0, 0, 0), (37, .lload_n 1, 1, 0, 0, 0), (38, .l2i, 1, 0, 0, 0), (39, .i2s, 1, 0, 0, 0), (40, .i2l, 1, 0, 0, 0), (41, .lreturn, 1, 0, 0, 0), (42, .lload_n 1, 1, 0, 0, 0), (43, .l2i, 1, 0, 0, 0), (44, .i2l, 1, 0, 0, 0), (45, .lreturn, 1, 0, 0, 0), (46, .lload_n 1, 1, 0, 0, 0), (47, .lreturn, 1, 0, 0, 0)]
noncomputable def ij_t39 : List (Nat × ij_E) := [(0, .aload_n 0, 1, 0, 0, 0), (1, .iload_n 1, 1, 0, 0, 0), (2, .invokevirtual 22, 3, 36, 1, 18), (5, .ifCond .eq 14, 3, 0, 0, 0), (8, .aload_n 0, 1, 0, 0, 0), (9, .getfield 9, 3, 8, 0, 0), (12, .iload_n 1, 1, 0, 0, 0), (13, .aload_n 0, 1, 0, 0, 0), (14, .lload_n 2, 1, 0, 0, 0), (15, .invokevirtual 28, 3, 38, 1, 18), (18, .lastore, 1, 0, 0, 0), (19, .return_, 1, 0, 0, 0)]
noncomputable def ij_t40 : List (Nat × ij_E) := [(0, .aload_n 0, 1, 0, 0, 0), (1, .iload_n 1, 1, 0, 0, 0), (2, .invokevirtual 115, 3, 27, 1, 20), (5, .astore 5, 2, 0, 0, 0), (7, .aload 5, 2, 0, 0, 0), (9, .iload_n 2, 1, 0, 0, 0), (10, .invokestatic 131, 3, 37, 2, 1), (13, .istore 6, 2, 0, 0, 0), (15, .aload 5, 2, 0, 0, 0), (17, .ifnull 8, 3, 0, 0, 0), (20, .iload 6, 2, 0, 0, 0), (22, .ifCond .eq 10, 3, 0, 0, 0), (25, .aload_n 0, 1, 0, 0, 0), (26, .iload 6, 2, 0, 0, 0), (28, .invokevirtual 119, 3, 28, 1, 20), (31, .ireturn, 1, 0, 0, 0), (32, .aload 5, 2, 0, 0, 0), (34, .iload_n 2, 1, 0, 0, 0), (35, .lload_n 3, 1, 0, 0, 0), (36, .invokevirtual 135, 3, 39, 2, 18), (39, .aload_n 0, 1, 0, 0, 0), (40, .invokevirtual 127, 3, 30, 0, 20), (43, .ireturn, 1, 0, 0, 0)]
noncomputable def ij_t41 : List (Nat × ij_E) := [(0, .iload_n 1, 1, 0, 0, 0), (1, .invokestatic 129, 3, 32, 1, 1), (4, .ifCond .ne 7, 3, 0, 0, 0), (7, .iconst 1, 1, 0, 0, 0), (8, .goto 36, 3, 0, 0, 0), (11, .aload_n 0, 1, 0, 0, 0), (12, .getfield 20, 3, 11, 5, 0), (15, .iload_n 1, 1, 0, 0, 0), (16, .iaload, 1, 0, 0, 0), (17, .iconst (-1), 1, 0, 0, 0), (18, .if_icmp .ne 7, 3, 0, 0, 0), (21, .iconst 2, 1, 0, 0, 0), (22, .goto 22, 3, 0, 0, 0), (25, .iload_n 2, 1, 0, 0, 0), (26, .ifCond .lt 13, 3, 0, 0, 0), (29, .iload_n 2, 1, 0, 0, 0), (30, .aload_n 0, 1, 0, 0, 0), (31, .getfield 20, 3, 11, 5, 0), (34, .iload_n 1, 1, 0, 0, 0), (35, .iaload, 1, 0, 0, 0), (36, .if_icmp .lt 7, 3, 0, 0, 0), (39, .iconst 3, 1, 0, 0, 0), (40, .goto 4, 3, 0, 0, 0), (43, .iconst 0, 1, 0, 0, 0), (44, .ireturn, 1, 0, 0, 0)]
noncomputable def ij_t42 : List (Nat × ij_E) := [(0, .iload_n 2, 1, 0, 0, 0), (1, .ifCond .ne 10, 3, 0, 0, 0), (4, .lload_n 0, 1, 0, 0, 0), (5, .l2i, 1, 0, 0, 0), (6, .i2b, 1, 0, 0, 0), (7, .i2l, 1, 0, 0, 0), (8, .goto 27, 3, 0, 0, 0), (11, .iload_n 2, 1, 0, 0, 0), (12, .iconst 1, 1, 0, 0, 0), (13, .if_icmp .ne 10, 3, 0, 0, 0), (16, .lload_n 0, 1, 0, 0, 0), (17, .l2i, 1, 0, 0, 0), (18, .i2s, 1, 0, 0, 0), (19, .i2l, 1, 0, 0, 0), (20, .goto 15, 3, 0, 0, 0), (23, .iload_n 2, 1, 0, 0, 0), (24, .iconst 2, 1, 0, 0, 0), (25, .if_icmp .ne 9, 3, 0, 0, 0), (28, .lload_n 0, 1, 0, 0, 0), (29, .l2i, 1, 0, 0, 0), (30, .i2l, 1, 0, 0, 0), (31, .goto 4, 3, 0, 0, 0), (34, .lload_n 0, 1, 0, 0, 0), (35, .lreturn, 1, 0, 0, 0)]
noncomputable def ij_t43 : List (Nat × ij_E) := [(0, .aload_n 0, 1, 0, 0, 0), (1, .iload_n 1, 1, 0, 0, 0), (2, .iload_n 2, 1, 0, 0, 0), (3, .invokevirtual 132, 3, 41, 2, 21), (6, .istore 5, 2, 0, 0, 0), (8, .iload 5, 2, 0, 0, 0), (10, .ifCond .ne 24, 3, 0, 0, 0), (13, .aload_n 0, 1, 0, 0, 0), (14, .getfield 23, 3, 11, 6, 0), (17, .bipush 60, 2, 0, 0, 0), (19, .iload_n 1, 1, 0, 0, 0), (20, .imul, 1, 0, 0, 0), (21, .iload_n 2, 1, 0, 0, 0), (22, .iadd, 1, 0, 0, 0), (23, .lload_n 3, 1, 0, 0, 0), (24, .aload_n 0, 1, 0, 0, 0), (25, .getfield 17, 3, 11, 4, 0), (28, .iload_n 1, 1, 0, 0, 0), (29, .iaload, 1, 0, 0, 0), (30, .invokestatic 136, 3, 42, 2, 1), (33, .lastore, 1, 0, 0, 0), (34, .aload_n 0, 1, 0, 0, 0), (35, .iload 5, 2, 0, 0, 0), (37, .invokevirtual 125, 3, 33, 1, 21), (40, .ireturn, 1, 0, 0, 0)]
noncomputable def ij_t44 : List (Nat × ij_E) := [(0, .aload_n 0, 1, 0, 0, 0), (1, .iload_n 1, 1, 0, 0, 0), (2, .putfield 7, 3, 10, 0, 0), (5, .iconst (-1), 1, 0, 0, 0), (6, .ireturn, 1, 0, 0, 0)]
noncomputable def ij_t45 : List (Nat × ij_E) := [(0, .aload_n 0, 1, 0, 0, 0), (1, .iload_n 1, 1, 0, 0, 0), (2, .invokevirtual 22, 3, 36, 1, 18), (5, .ifCond .eq 12, 3, 0, 0, 0), (8, .aload_n 0, 1, 0, 0, 0), (9, .getfield 9, 3, 8, 0, 0), (12, .iload_n 1, 1, 0, 0, 0), (13, .laload, 1, 0, 0, 0), (14, .goto 6, 3, 0, 0, 0), (17, .ldc2_w 26, 3, 0, 18446744073709551615, 0), (20, .lreturn, 1, 0, 0, 0)]
noncomputable def ij_t46 : List (Nat × ij_E) := [(0, .aload_n 0, 1, 0, 0, 0), (1, .iload_n 1, 1, 0, 0, 0), (2, .invokevirtual 115, 3, 27, 1, 20), (5, .astore_n 3, 1, 0, 0, 0), (6, .aload_n 3, 1, 0, 0, 0), (7, .iload_n 2, 1, 0, 0, 0), (8, .invokestatic 131, 3, 37, 2, 1), (11, .istore 4, 2, 0, 0, 0), (13, .aload_n 3, 1, 0, 0, 0), (14, .ifnull 8, 3, 0, 0, 0), (17, .iload 4, 2, 0, 0, 0), (19, .ifCond .eq 11, 3, 0, 0, 0), (22, .aload_n 0, 1, 0, 0, 0), (23, .iload 4, 2, 0, 0, 0), (25, .invokevirtual 139, 3, 44, 1, 20), (28, .i2l, 1, 0, 0, 0), (29, .lreturn, 1, 0, 0, 0), (30, .aload_n 0, 1, 0, 0, 0), (31, .iconst 0, 1, 0, 0, 0), (32, .putfield 7, 3, 10, 0, 0), (35, .aload_n 3, 1, 0, 0, 0), (36, .iload_n 2, 1, 0, 0, 0), (37, .invokevirtual 143, 3, 45, 1, 18), (40, .lreturn, 1, 0, 0, 0)]
noncomputable def ij_t47 : List (Nat × ij_E) := [(0, .aload_n 0, 1, 0, 0, 0), (1, .aload_n 0, 1, 0, 0, 0), (2, .iload_n 1, 1, 0, 0, 0), (3, .iload_n 2, 1, 0, 0, 0), (4, .invokevirtual 132, 3, 41, 2, 21), (7, .putfield 112, 3, 11, 1, 0), (10, .aload_n 0, 1, 0, 0, 0), (11, .getfield 112, 3, 11, 1, 0), (14, .ifCond .le 9, 3, 0, 0, 0), (17, .ldc2_w 140, 3, 0, 18446744073709551615, 0), (20, .goto 14, 3, 0, 0, 0), (23, .aload_n 0, 1, 0, 0, 0), (24, .getfield 23, 3, 11, 6, 0), (27, .bipush 60, 2, 0, 0, 0), (29, .iload_n 1, 1, 0, 0, 0), (30, .imul, 1, 0, 0, 0), (31, .iload_n 2, 1, 0, 0, 0), (32, .iadd, 1, 0, 0, 0), (33, .laload, 1, 0, 0, 0), (34, .lreturn, 1, 0, 0, 0)]
noncomputable def ij_t48 : List (Nat × ij_E) := [(0, .iload_n 1, 1, 0, 0, 0), (1, .ifCond .lt 25, 3, 0, 0, 0), (4, .iload_n 2, 1, 0, 0, 0), (5, .ifCond .lt 21, 3, 0, 0, 0), (8, .iload_n 1, 1, 0, 0, 0), (9, .i2l, 1, 0, 0, 0), (10, .iload_n 2, 1, 0, 0, 0), (11, .i2l, 1, 0, 0, 0), (12, .ladd, 1, 0, 0, 0), (13, .aload_n 0, 1, 0, 0, 0), (14, .getfield 19, 3, 8, 2, 0), (17, .i2l, 1, 0, 0, 0), (18, .lcmp, 1, 0, 0, 0), (19, .ifCond .gt 7, 3, 0, 0, 0), (22, .iconst 1, 1, 0, 0, 0), (23, .goto 4, 3, 0, 0, 0), (26, .iconst 0, 1, 0, 0, 0), (27, .ireturn, 1, 0, 0, 0)]
noncomputable def ij_t49 : List (Nat × ij_E) := [(0, .aload_n 0, 1, 0, 0, 0), (1, .iload_n 1, 1, 0, 0, 0), (2, .invokevirtual 115, 3, 27, 1, 20), (5, .astore 6, 2, 0, 0, 0), (7, .aload_n 0, 1, 0, 0, 0), (8, .iload_n 3, 1, 0, 0, 0), (9, .invokevirtual 115, 3, 27, 1, 20), (12, .astore 7, 2, 0, 0, 0), (14, .aload 6, 2, 0, 0, 0), (16, .ifnull 22, 3, 0, 0, 0), (19, .aload 7, 2, 0, 0, 0), (21, .ifnull 17, 3, 0, 0, 0), (24, .iload_n 2, 1, 0, 0, 0), (25, .ifCond .lt 13, 3, 0, 0, 0), (28, .iload 4, 2, 0, 0, 0), (30, .ifCond .lt 8, 3, 0, 0, 0), (33, .iload 5, 2, 0, 0, 0), (35, .ifCond .ge 9, 3, 0, 0, 0), (38, .aload_n 0, 1, 0, 0, 0), (39, .iconst 1, 1, 0, 0, 0), (40, .invokevirtual 119, 3, 28, 1, 20), (43, .ireturn, 1, 0, 0, 0), (44, .aload 6, 2, 0, 0, 0), (46, .invokevirtual 147, 3, 35, 0, 18), (49, .ifCond .ne 11, 3, 0, 0, 0), (52, .aload 7, 2, 0, 0, 0), (54, .invokevirtual 147, 3, 35, 0, 18), (57, .ifCond .eq 9, 3, 0, 0, 0), (60, .aload_n 0, 1, 0, 0, 0), (61, .iconst 2, 1, 0, 0, 0), (62, .invokevirtual 119, 3, 28, 1, 20), (65, .ireturn, 1, 0, 0, 0), (66, .aload 6, 2, 0, 0, 0), (68, .getfield 150, 3, 8, 1, 0), (71, .aload 7, 2, 0, 0, 0), (73, .getfield 150, 3, 8, 1, 0), (76, .if_icmp .eq 10, 3, 0, 0, 0), (79, .aload_n 0, 1, 0, 0, 0), (80, .bipush 8, 2, 0, 0, 0), (82, .invokevirtual 119, 3, 28, 1, 20), (85, .ireturn, 1, 0, 0, 0), (86, .aload 6, 2, 0, 0, 0), (88, .iload_n 2, 1, 0, 0, 0), (89, .iload 5, 2, 0, 0, 0), (91, .invokevirtual 153, 3, 48, 2, 18), (94, .ifCond .eq 15, 3, 0, 0, 0), (97, .aload 7, 2, 0, 0, 0), (99, .iload 4, 2, 0, 0, 0), (101, .iload 5, 2, 0, 0, 0), (103, .invokevirtual 153, 3, 48, 2, 18), (106, .ifCond .ne 9, 3, 0, 0, 0), (109, .aload_n 0, 1, 0, 0, 0), (110, .iconst 3, 1, 0, 0, 0), (111, .invokevirtual 119, 3, 28, 1, 20), (114, .ireturn, 1, 0, 0, 0), (115, .aload 6, 2, 0, 0, 0), (117, .getfield 157, 3, 8, 0, 0), (120, .iload_n 2, 1, 0, 0, 0), (121, .aload 7, 2, 0, 0, 0), (123, .getfield 157, 3, 8, 0, 0), (126, .iload 4, 2, 0, 0, 0), (128, .iload 5, 2, 0, 0, 0), (130, .invokestatic 160, 3, 999998, 0, 6), (133, .aload_n 0, 1, 0, 0, 0), (134, .invokevirtual 127, 3, 30, 0, 20), (137, .ireturn, 1, 0, 0, 0)]
noncomputable def ij_t50 : List (Nat × ij_E) := [(0, .iload_n 1, 1, 0, 0, 0), (1, .invokestatic 129, 3, 32, 1, 1), (4, .ifCond .eq 24, 3, 0, 0, 0), (7, .iload_n 3, 1, 0, 0, 0), (8, .invokestatic 129, 3, 32, 1, 1), (11, .ifCond .eq 17, 3, 0, 0, 0), (14, .iload_n 2, 1, 0, 0, 0), (15, .ifCond .lt 13, 3, 0, 0, 0), (18, .iload 4, 2, 0, 0, 0), (20, .ifCond .lt 8, 3, 0, 0, 0), (23, .iload 5, 2, 0, 0, 0), (25, .ifCond .ge 9, 3, 0, 0, 0), (28, .aload_n 0, 1, 0, 0, 0), (29, .iconst 1, 1, 0, 0, 0), (30, .invokevirtual 125, 3, 33, 1, 21), (33, .ireturn, 1, 0, 0, 0), (34, .aload_n 0, 1, 0, 0, 0), (35, .getfield 20, 3, 11, 5, 0), (38, .iload_n 1, 1, 0, 0, 0), (39, .iaload, 1, 0, 0, 0), (40, .iconst (-1), 1, 0, 0, 0), (41, .if_icmp .eq 13, 3, 0, 0, 0), (44, .aload_n 0, 1, 0, 0, 0), (45, .getfield 20, 3, 11, 5, 0), (48, .iload_n 3, 1, 0, 0, 0), (49, .iaload, 1, 0, 0, 0), (50, .iconst (-1), 1, 0, 0, 0), (51, .if_icmp .ne 9, 3, 0, 0, 0), (54, .aload_n 0, 1, 0, 0, 0), (55, .iconst 2, 1, 0, 0, 0), (56, .invokevirtual 125, 3, 33, 1, 21), (59, .ireturn, 1, 0, 0, 0), (60, .aload_n 0, 1, 0, 0, 0), (61, .getfield 17, 3, 11, 4, 0), (64, .iload_n 1, 1, 0, 0, 0), (65, .iaload, 1, 0, 0, 0), (66, .aload_n 0, 1, 0, 0, 0), (67, .getfield 17, 3, 11, 4, 0), (70, .iload_n 3, 1, 0, 0, 0), (71, .iaload, 1, 0, 0, 0), (72, .if_icmp .eq 10, 3, 0, 0, 0), (75, .aload_n 0, 1, 0, 0, 0), (76, .bipush 8, 2, 0, 0, 0), (78, .invokevirtual 125, 3, 33, 1, 21), (81, .ireturn, 1, 0, 0, 0), (82, .iload 5, 2, 0, 0, 0), (84, .aload_n 0, 1, 0, 0, 0), (85, .getfield 20, 3, 11, 5, 0), (88, .iload_n 1, 1, 0, 0, 0), (89, .iaload, 1, 0, 0, 0), (90, .iload_n 2, 1, 0, 0, 0), (91, .isub, 1, 0, 0, 0), (92, .if_icmp .gt 17, 3, 0, 0, 0), (95, .iload 5, 2, 0, 0, 0), (97, .aload_n 0, 1, 0, 0, 0), (98, .getfield 20, 3, 11, 5, 0), (101, .iload_n 3, 1, 0, 0, 0), (102, .iaload, 1, 0, 0, 0), (103, .iload 4, 2, 0, 0, 0), (105, .isub, 1, 0, 0, 0), (106, .if_icmp .le 9, 3, 0, 0, 0), (109, .aload_n 0, 1, 0, 0, 0), (110, .iconst 3, 1, 0, 0, 0), (111, .invokevirtual 125, 3, 33, 1, 21), (114, .ireturn, 1, 0, 0, 0), (115, .iconst 0, 1, 0, 0, 0), (116, .istore 6, 2, 0, 0, 0), (118, .iload 6, 2, 0, 0, 0), (120, .iload 5, 2, 0, 0, 0), (122, .if_icmp .ge 58, 3, 0, 0, 0), (125, .iload_n 2, 1, 0, 0, 0), (126, .iload 4, 2, 0, 0, 0), (128, .if_icmp .ge 13, 3, 0, 0, 0), (131, .iload 5, 2, 0, 0, 0), (133, .iconst 1, 1, 0, 0, 0), (134, .isub, 1, 0, 0, 0), (135, .iload 6, 2, 0, 0, 0), (137, .isub, 1, 0, 0, 0), (138, .goto 5, 3, 0, 0, 0), (141, .iload 6, 2, 0, 0, 0), (143, .istore 7, 2, 0, 0, 0), (145, .aload_n 0, 1, 0, 0, 0), (146, .getfield 23, 3, 11, 6, 0), (149, .bipush 60, 2, 0, 0, 0), (151, .iload_n 3, 1, 0, 0, 0), (152, .imul, 1, 0, 0, 0), (153, .iload 4, 2, 0, 0, 0), (155, .iadd, 1, 0, 0, 0), (156, .iload 7, 2, 0, 0, 0), (158, .iadd, 1, 0, 0, 0), (159, .aload_n 0, 1, 0, 0, 0), (160, .getfield 23, 3, 11, 6, 0), (163, .bipush 60, 2, 0, 0, 0), (165, .iload_n 1, 1, 0, 0, 0), (166, .imul, 1, 0, 0, 0), (167, .iload_n 2, 1, 0, 0, 0), (168, .iadd, 1, 0, 0, 0), (169, .iload 7, 2, 0, 0, 0), (171, .iadd, 1, 0, 0, 0), (172, .laload, 1, 0, 0, 0), (173, .lastore, 1, 0, 0, 0), (174, .iinc 6 1, 3, 0, 0, 0), (177, .goto (-59), 3, 0, 0, 0), (180, .aload_n 0, 1, 0, 0, 0), (181, .iconst 0, 1, 0, 0, 0), (182, .invokevirtual 125, 3, 33, 1, 21), (185, .ireturn, 1, 0, 0, 0)]
noncomputable def ij_t51 : List (Nat × ij_E) := [(0, .bipush 24, 2, 0, 0, 0), (2, .istore_n 2, 1, 0, 0, 0), (3, .iload_n 2, 1, 0, 0, 0), (4, .ifCond .lt 44, 3, 0, 0, 0), (7, .aload_n 0, 1, 0, 0, 0), (8, .getfield 15, 3, 2, 1, 0), (11, .aload_n 0, 1, 0, 0, 0), (12, .getfield 9, 3, 2, 0, 0), (15, .arraylength, 1, 0, 0, 0), (16, .if_icmp .ge 32, 3, 0, 0, 0), (19, .aload_n 0, 1, 0, 0, 0), (20, .getfield 9, 3, 2, 0, 0), (23, .aload_n 0, 1, 0, 0, 0), (24, .getfield 15, 3, 2, 1, 0), (27, .iload_n 1, 1, 0, 0, 0), (28, .iload_n 2, 1, 0, 0, 0), (29, .ishr, 1, 0, 0, 0), (30, .i2b, 1, 0, 0, 0), (31, .bastore, 1, 0, 0, 0), (32, .aload_n 0, 1, 0, 0, 0), (33, .dup, 1, 0, 0, 0), (34, .getfield 15, 3, 2, 1, 0), (37, .iconst 1, 1, 0, 0, 0), (38, .iadd, 1, 0, 0, 0), (39, .putfield 15, 3, 2, 1, 0), (42, .iinc 2 (-8), 3, 0, 0, 0), (45, .goto (-42), 3, 0, 0, 0), (48, .return_, 1, 0, 0, 0)]
noncomputable def ij_t52 : List (Nat × ij_E) := [(0, .aload_n 0, 1, 0, 0, 0), (1, .getfield 30, 3, 10, 4, 0), (4, .getfield 166, 3, 2, 1, 0), (7, .bipush 20, 2, 0, 0, 0), (9, .iadd, 1, 0, 0, 0), (10, .sipush 900, 3, 0, 0, 0), (13, .if_icmp .le 5, 3, 0, 0, 0), (16, .iconst (-1), 1, 0, 0, 0), (17, .ireturn, 1, 0, 0, 0), (18, .aload_n 0, 1, 0, 0, 0), (19, .getfield 30, 3, 10, 4, 0), (22, .iload_n 1, 1, 0, 0, 0), (23, .invokevirtual 169, 3, 51, 1, 12), (26, .aload_n 0, 1, 0, 0, 0), (27, .getfield 30, 3, 10, 4, 0), (30, .iload_n 2, 1, 0, 0, 0), (31, .invokevirtual 169, 3, 51, 1, 12), (34, .aload_n 0, 1, 0, 0, 0), (35, .getfield 30, 3, 10, 4, 0), (38, .iload_n 3, 1, 0, 0, 0), (39, .invokevirtual 169, 3, 51, 1, 12), (42, .aload_n 0, 1, 0, 0, 0), (43, .getfield 30, 3, 10, 4, 0), (46, .iload 4, 2, 0, 0, 0), (48, .invokevirtual 169, 3, 51, 1, 12), (51, .aload_n 0, 1, 0, 0, 0), (52, .getfield 30, 3, 10, 4, 0), (55, .iload 5, 2, 0, 0, 0), (57, .invokevirtual 169, 3, 51, 1, 12), (60, .aload_n 0, 1, 0, 0, 0), (61, .getfield 30, 3, 10, 4, 0), (64, .getfield 166, 3, 2, 1, 0), (67, .ireturn, 1, 0, 0, 0)]
noncomputable def ij_t53 : List (Nat × ij_E) := [(0, .bipush 24, 2, 0, 0, 0), (2, .istore_n 2, 1, 0, 0, 0), (3, .iload_n 2, 1, 0, 0, 0), (4, .ifCond .lt 32, 3, 0, 0, 0), (7, .aload_n 0, 1, 0, 0, 0), (8, .getfield 27, 3, 11, 7, 0), (11, .aload_n 0, 1, 0, 0, 0), (12, .getfield 142, 3, 11, 9, 0), (15, .iload_n 1, 1, 0, 0, 0), (16, .iload_n 2, 1, 0, 0, 0), (17, .ishr, 1, 0, 0, 0), (18, .i2b, 1, 0, 0, 0), (19, .bastore, 1, 0, 0, 0), (20, .aload_n 0, 1, 0, 0, 0), (21, .dup, 1, 0, 0, 0), (22, .getfield 142, 3, 11, 9, 0), (25, .iconst 1, 1, 0, 0, 0), (26, .iadd, 1, 0, 0, 0), (27, .putfield 142, 3, 11, 9, 0), (30, .iinc 2 (-8), 3, 0, 0, 0), (33, .goto (-30), 3, 0, 0, 0), (36, .return_, 1, 0, 0, 0)]
noncomputable def ij_t54 : List (Nat × ij_E) := [(0, .aload_n 0, 1, 0, 0, 0), (1, .getfield 142, 3, 11, 9, 0), (4, .bipush 20, 2, 0, 0, 0), (6, .iadd, 1, 0, 0, 0), (7, .sipush 900, 3, 0, 0, 0), (10, .if_icmp .le 5, 3, 0, 0, 0), (13, .iconst (-1), 1, 0, 0, 0), (14, .ireturn, 1, 0, 0, 0), (15, .aload_n 0, 1, 0, 0, 0), (16, .iload_n 1, 1, 0, 0, 0), (17, .invokevirtual 145, 3, 53, 1, 21), (20, .aload_n 0, 1, 0, 0, 0), (21, .iload_n 2, 1, 0, 0, 0), (22, .invokevirtual 145, 3, 53, 1, 21), (25, .aload_n 0, 1, 0, 0, 0), (26, .iload_n 3, 1, 0, 0, 0), (27, .invokevirtual 145, 3, 53, 1, 21), (30, .aload_n 0, 1, 0, 0, 0), (31, .iload 4, 2, 0, 0, 0), (33, .invokevirtual 145, 3, 53, 1, 21), (36, .aload_n 0, 1, 0, 0, 0), (37, .iload 5, 2, 0, 0, 0), (39, .invokevirtual 145, 3, 53, 1, 21), (42, .aload_n 0, 1, 0, 0, 0), (43, .getfield 142, 3, 11, 9, 0), (46, .ireturn, 1, 0, 0, 0)]
noncomputable def ij_t55 : List (Nat × ij_E) := [(0, .aload_n 0, 1, 0, 0, 0), (1, .iload_n 1, 1, 0, 0, 0), (2, .putfield 19, 3, 2, 2, 0), (5, .aload_n 0, 1, 0, 0, 0), (6, .iconst 0, 1, 0, 0, 0), (7, .putfield 22, 3, 2, 3, 0), (10, .aload_n 0, 1, 0, 0, 0), (11, .iconst 0, 1, 0, 0, 0), (12, .putfield 34, 3, 2, 7, 0), (15, .aload_n 0, 1, 0, 0, 0), (16, .iconst (-1), 1, 0, 0, 0), (17, .putfield 37, 3, 2, 8, 0), (20, .return_, 1, 0, 0, 0)]
noncomputable def ij_t56 : List (Nat × ij_E) := [(0, .iload_n 1, 1, 0, 0, 0), (1, .ifCond .lt 25, 3, 0, 0, 0), (4, .iload_n 1, 1, 0, 0, 0), (5, .aload_n 0, 1, 0, 0, 0), (6, .getfield 9, 3, 2, 0, 0), (9, .arraylength, 1, 0, 0, 0), (10, .if_icmp .ge 16, 3, 0, 0, 0), (13, .aload_n 0, 1, 0, 0, 0), (14, .getfield 9, 3, 2, 0, 0), (17, .iload_n 1, 1, 0, 0, 0), (18, .baload, 1, 0, 0, 0), (19, .sipush 255, 3, 0, 0, 0), (22, .iand, 1, 0, 0, 0), (23, .goto 4, 3, 0, 0, 0), (26, .iconst 0, 1, 0, 0, 0), (27, .ireturn, 1, 0, 0, 0)]
noncomputable def ij_t57 : List (Nat × ij_E) := [(0, .iload_n 0, 1, 0, 0, 0), (1, .bipush 10, 2, 0, 0, 0), (3, .if_icmp .eq 9, 3, 0, 0, 0), (6, .iload_n 0, 1, 0, 0, 0), (7, .bipush 32, 2, 0, 0, 0), (9, .if_icmp .ne 7, 3, 0, 0, 0), (12, .iconst 1, 1, 0, 0, 0), (13, .goto 4, 3, 0, 0, 0), (16, .iconst 0, 1, 0, 0, 0), (17, .ireturn, 1, 0, 0, 0)]
noncomputable def ij_t58 : List (Nat × ij_E) := [(0, .iload_n 0, 1, 0, 0, 0), (1, .bipush 97, 2, 0, 0, 0), (3, .if_icmp .lt 13, 3, 0, 0, 0), (6, .iload_n 0, 1, 0, 0, 0), (7, .bipush 122, 2, 0, 0, 0), (9, .if_icmp .gt 7, 3, 0, 0, 0), (12, .iconst 1, 1, 0, 0, 0), (13, .goto 4, 3, 0, 0, 0), (16, .iconst 0, 1, 0, 0, 0), (17, .ireturn, 1, 0, 0, 0)]
noncomputable def ij_t59 : List (Nat × ij_E) := [(0, .aload_n 0, 1, 0, 0, 0), (1, .iconst 1, 1, 0, 0, 0), (2, .putfield 25, 3, 2, 4, 0), (5, .aload_n 0, 1, 0, 0, 0), (6, .getfield 22, 3, 2, 3, 0), (9, .aload_n 0, 1, 0, 0, 0), (10, .getfield 19, 3, 2, 2, 0), (13, .if_icmp .ge 30, 3, 0, 0, 0), (16, .aload_n 0, 1, 0, 0, 0), (17, .aload_n 0, 1, 0, 0, 0), (18, .getfield 22, 3, 2, 3, 0), (21, .invokevirtual 40, 3, 56, 1, 12), (24, .invokestatic 48, 3, 58, 1, 1), (27, .ifCond .eq 16, 3, 0, 0, 0), (30, .aload_n 0, 1, 0, 0, 0), (31, .dup, 1, 0, 0, 0), (32, .getfield 22, 3, 2, 3, 0), (35, .iconst 1, 1, 0, 0, 0), (36, .iadd, 1, 0, 0, 0), (37, .putfield 22, 3, 2, 3, 0), (40, .goto (-35), 3, 0, 0, 0), (43, .return_, 1, 0, 0, 0)]
noncomputable def ij_t60 : List (Nat × ij_E) := [(0, .iload_n 0, 1, 0, 0, 0), (1, .bipush 48, 2, 0, 0, 0), (3, .if_icmp .lt 13, 3, 0, 0, 0), (6, .iload_n 0, 1, 0, 0, 0), (7, .bipush 57, 2, 0, 0, 0), (9, .if_icmp .gt 7, 3, 0, 0, 0), (12, .iconst 1, 1, 0, 0, 0), (13, .goto 4, 3, 0, 0, 0), (16, .iconst 0, 1, 0, 0, 0), (17, .ireturn, 1, 0, 0, 0)]
noncomputable def ij_t61 : List (Nat × ij_E) := [(0, .aload_n 0, 1, 0, 0, 0), (1, .iconst 2, 1, 0, 0, 0), (2, .putfield 25, 3, 2, 4, 0), (5, .aload_n 0, 1, 0, 0, 0), (6, .iconst 0, 1, 0, 0, 0), (7, .putfield 31, 3, 2, 6, 0), (10, .aload_n 0, 1, 0, 0, 0), (11, .getfield 22, 3, 2, 3, 0), (14, .aload_n 0, 1, 0, 0, 0), (15, .getfield 19, 3, 2, 2, 0), (18, .if_icmp .ge 73, 3, 0, 0, 0), (21, .aload_n 0, 1, 0, 0, 0), (22, .aload_n 0, 1, 0, 0, 0), (23, .getfield 22, 3, 2, 3, 0), (26, .invokevirtual 40, 3, 56, 1, 12), (29, .invokestatic 54, 3, 60, 1, 1), (32, .ifCond .eq 59, 3, 0, 0, 0), (35, .aload_n 0, 1, 0, 0, 0), (36, .aload_n 0, 1, 0, 0, 0), (37, .getfield 22, 3, 2, 3, 0), (40, .aload_n 0, 1, 0, 0, 0), (41, .getfield 28, 3, 2, 5, 0), (44, .isub, 1, 0, 0, 0), (45, .iconst 4, 1, 0, 0, 0), (46, .if_icmp .ge 25, 3, 0, 0, 0), (49, .aload_n 0, 1, 0, 0, 0), (50, .getfield 31, 3, 2, 6, 0), (53, .bipush 10, 2, 0, 0, 0), (55, .imul, 1, 0, 0, 0), (56, .aload_n 0, 1, 0, 0, 0), (57, .aload_n 0, 1, 0, 0, 0), (58, .getfield 22, 3, 2, 3, 0), (61, .invokevirtual 40, 3, 56, 1, 12), (64, .iadd, 1, 0, 0, 0), (65, .bipush 48, 2, 0, 0, 0), (67, .isub, 1, 0, 0, 0), (68, .goto 7, 3, 0, 0, 0), (71, .aload_n 0, 1, 0, 0, 0), (72, .getfield 31, 3, 2, 6, 0), (75, .putfield 31, 3, 2, 6, 0), (78, .aload_n 0, 1, 0, 0, 0), (79, .dup, 1, 0, 0, 0), (80, .getfield 22, 3, 2, 3, 0), (83, .iconst 1, 1, 0, 0, 0), (84, .iadd, 1, 0, 0, 0), (85, .putfield 22, 3, 2, 3, 0), (88, .goto (-78), 3, 0, 0, 0), (91, .aload_n 0, 1, 0, 0, 0), (92, .getfield 22, 3, 2, 3, 0), (95, .aload_n 0, 1, 0, 0, 0), (96, .getfield 28, 3, 2, 5, 0), (99, .isub, 1, 0, 0, 0), (100, .iconst 4, 1, 0, 0, 0), (101, .if_icmp .le 8, 3, 0, 0, 0), (104, .aload_n 0, 1, 0, 0, 0), (105, .iconst 4, 1, 0, 0, 0), (106, .putfield 25, 3, 2, 4, 0), (109, .return_, 1, 0, 0, 0)]
noncomputable def ij_t62 : List (Nat × ij_E) := [(0, .iload_n 0, 1, 0, 0, 0), (1, .bipush 59, 2, 0, 0, 0), (3, .if_icmp .eq 21, 3, 0, 0, 0), (6, .iload_n 0, 1, 0, 0, 0), (7, .bipush 60, 2, 0, 0, 0), (9, .if_icmp .eq 15, 3, 0, 0, 0), (12, .iload_n 0, 1, 0, 0, 0), (13, .bipush 62, 2, 0, 0, 0), (15, .if_icmp .eq 9, 3, 0, 0, 0), (18, .iload_n 0, 1, 0, 0, 0), (19, .bipush 61, 2, 0, 0, 0), (21, .if_icmp .ne 7, 3, 0, 0, 0), (24, .iconst 1, 1, 0, 0, 0), (25, .goto 4, 3, 0, 0, 0), (28, .iconst 0, 1, 0, 0, 0), (29, .ireturn, 1, 0, 0, 0)]
noncomputable def ij_t63 : List (Nat × ij_E) := [(0, .aload_n 0, 1, 0, 0, 0), (1, .iload_n 1, 1, 0, 0, 0), (2, .putfield 34, 3, 2, 7, 0), (5, .aload_n 0, 1, 0, 0, 0), (6, .aload_n 0, 1, 0, 0, 0), (7, .getfield 28, 3, 2, 5, 0), (10, .putfield 37, 3, 2, 8, 0), (13, .iconst 0, 1, 0, 0, 0), (14, .ireturn, 1, 0, 0, 0)]
noncomputable def ij_t64 : List (Nat × ij_E) := [(0, .aload_n 0, 1, 0, 0, 0), (1, .getfield 22, 3, 2, 3, 0), (4, .aload_n 0, 1, 0, 0, 0), (5, .getfield 19, 3, 2, 2, 0), (8, .if_icmp .ge 30, 3, 0, 0, 0), (11, .aload_n 0, 1, 0, 0, 0), (12, .aload_n 0, 1, 0, 0, 0), (13, .getfield 22, 3, 2, 3, 0), (16, .invokevirtual 40, 3, 56, 1, 12), (19, .invokestatic 44, 3, 57, 1, 1), (22, .ifCond .eq 16, 3, 0, 0, 0), (25, .aload_n 0, 1, 0, 0, 0), (26, .dup, 1, 0, 0, 0), (27, .getfield 22, 3, 2, 3, 0), (30, .iconst 1, 1, 0, 0, 0), (31, .iadd, 1, 0, 0, 0), (32, .putfield 22, 3, 2, 3, 0), (35, .goto (-35), 3, 0, 0, 0), (38, .aload_n 0, 1, 0, 0, 0), (39, .aload_n 0, 1, 0, 0, 0), (40, .getfield 22, 3, 2, 3, 0), (43, .putfield 28, 3, 2, 5, 0), (46, .aload_n 0, 1, 0, 0, 0), (47, .aload_n 0, 1, 0, 0, 0), (48, .getfield 22, 3, 2, 3, 0), (51, .invokevirtual 40, 3, 56, 1, 12), (54, .istore_n 1, 1, 0, 0, 0), (55, .aload_n 0, 1, 0, 0, 0), (56, .getfield 22, 3, 2, 3, 0), (59, .aload_n 0, 1, 0, 0, 0), (60, .getfield 19, 3, 2, 2, 0), (63, .if_icmp .lt 11, 3, 0, 0, 0), (66, .aload_n 0, 1, 0, 0, 0), (67, .iconst 0, 1, 0, 0, 0), (68, .putfield 25, 3, 2, 4, 0), (71, .goto 66, 3, 0, 0, 0), (74, .iload_n 1, 1, 0, 0, 0), (75, .invokestatic 48, 3, 58, 1, 1), (78, .ifCond .eq 10, 3, 0, 0, 0), (81, .aload_n 0, 1, 0, 0, 0), (82, .invokevirtual 51, 3, 59, 0, 12), (85, .goto 52, 3, 0, 0, 0), (88, .iload_n 1, 1, 0, 0, 0), (89, .invokestatic 54, 3, 60, 1, 1), (92, .ifCond .eq 10, 3, 0, 0, 0), (95, .aload_n 0, 1, 0, 0, 0), (96, .invokevirtual 57, 3, 61, 0, 12), (99, .goto 38, 3, 0, 0, 0), (102, .iload_n 1, 1, 0, 0, 0), (103, .invokestatic 60, 3, 62, 1, 1), (106, .ifCond .eq 26, 3, 0, 0, 0), (109, .aload_n 0, 1, 0, 0, 0), (110, .iconst 3, 1, 0, 0, 0), (111, .putfield 25, 3, 2, 4, 0), (114, .aload_n 0, 1, 0, 0, 0), (115, .iload_n 1, 1, 0, 0, 0), (116, .putfield 31, 3, 2, 6, 0), (119, .aload_n 0, 1, 0, 0, 0), (120, .dup, 1, 0, 0, 0), (121, .getfield 22, 3, 2, 3, 0), (124, .iconst 1, 1, 0, 0, 0), (125, .iadd, 1, 0, 0, 0), (126, .putfield 22, 3, 2, 3, 0), (129, .goto 8, 3, 0, 0, 0), (132, .aload_n 0, 1, 0, 0, 0), (133, .iconst 4, 1, 0, 0, 0), (134, .putfield 25, 3, 2, 4, 0), (137, .aload_n 0, 1, 0, 0, 0), (138, .getfield 25, 3, 2, 4, 0), (141, .iconst 4, 1, 0, 0, 0), (142, .if_icmp .ne 11, 3, 0, 0, 0), (145, .aload_n 0, 1, 0, 0, 0), (146, .iconst 1, 1, 0, 0, 0), (147, .invokevirtual 63, 3, 63, 1, 12), (150, .ifCond .eq 7, 3, 0, 0, 0), (153, .iconst 1, 1, 0, 0, 0), (154, .goto 4, 3, 0, 0, 0), (157, .iconst 0, 1, 0, 0, 0), (158, .ireturn, 1, 0, 0, 0)]
noncomputable def ij_t65 : List (Nat × ij_E) := [(0, .getstatic 38, 3, 3, 0, 0), (3, .ifCond .eq 10, 3, 0, 0, 0), (6, .aload_n 0, 1, 0, 0, 0), (7, .getfield 15, 3, 114, 1, 0), (10, .goto 4, 3, 0, 0, 0), (13, .iconst 1, 1, 0, 0, 0), (14, .ireturn, 1, 0, 0, 0)]
noncomputable def ij_t66 : List (Nat × ij_E) := [(0, .aload_n 0, 1, 0, 0, 0), (1, .getfield 9, 3, 114, 0, 0), (4, .arraylength, 1, 0, 0, 0), (5, .aload_n 0, 1, 0, 0, 0), (6, .invokevirtual 335, 3, 65, 0, 30), (9, .ishr, 1, 0, 0, 0), (10, .ireturn, 1, 0, 0, 0)]
noncomputable def ij_t67 : List (Nat × ij_E) := [(0, .getstatic 38, 3, 3, 0, 0), (3, .ifCond .eq 14, 3, 0, 0, 0), (6, .aload_n 0, 1, 0, 0, 0), (7, .getfield 15, 3, 114, 1, 0), (10, .ifCond .ne 7, 3, 0, 0, 0), (13, .iconst 1, 1, 0, 0, 0), (14, .goto 4, 3, 0, 0, 0), (17, .iconst 0, 1, 0, 0, 0), (18, .ireturn, 1, 0, 0, 0)]
noncomputable def ij_t68 : List (Nat × ij_E) := [(0, .iload_n 0, 1, 0, 0, 0), (1, .ifCond .lt 8, 3, 0, 0, 0), (4, .iload_n 0, 1, 0, 0, 0), (5, .iload_n 1, 1, 0, 0, 0), (6, .if_icmp .lt 10, 3, 0, 0, 0), (9, .aload_n 2, 1, 0, 0, 0), (10, .iload_n 0, 1, 0, 0, 0), (11, .iload_n 1, 1, 0, 0, 0), (12, .invokestatic 95, 3, 0, 0, 0), (15, .athrow, 1, 0, 0, 0), (16, .iload_n 0, 1, 0, 0, 0), (17, .ireturn, 1, 0, 0, 0)]
noncomputable def ij_t69 : List (Nat × ij_E) := [(0, .iload_n 0, 1, 0, 0, 0), (1, .iload_n 1, 1, 0, 0, 0), (2, .getstatic 1053, 3, 4, 0, 0), (5, .invokestatic 1059, 3, 68, 3, 1), (8, .pop, 1, 0, 0, 0), (9, .return_, 1, 0, 0, 0)]
noncomputable def ij_t70 : List (Nat × ij_E) := [(0, .iload_n 1, 1, 0, 0, 0), (1, .aload_n 0, 1, 0, 0, 0), (2, .arraylength, 1, 0, 0, 0), (3, .invokestatic 9, 3, 69, 2, 1), (6, .aload_n 0, 1, 0, 0, 0), (7, .iload_n 1, 1, 0, 0, 0), (8, .baload, 1, 0, 0, 0), (9, .sipush 255, 3, 0, 0, 0), (12, .iand, 1, 0, 0, 0), (13, .i2c, 1, 0, 0, 0), (14, .ireturn, 1, 0, 0, 0)]
noncomputable def ij_t71 : List (Nat × ij_E) := [(0, .aload_n 0, 1, 0, 0, 0), (1, .invokevirtual 492, 3, 67, 0, 30), (4, .ifCond .eq 12, 3, 0, 0, 0), (7, .aload_n 0, 1, 0, 0, 0), (8, .getfield 9, 3, 114, 0, 0), (11, .iload_n 1, 1, 0, 0, 0), (12, .invokestatic 495, 3, 70, 2, 1), (15, .ireturn, 1, 0, 0, 0), (16, .aload_n 0, 1, 0, 0, 0), (17, .getfield 9, 3, 114, 0, 0), (20, .iload_n 1, 1, 0, 0, 0), (21, .invokestatic 498, 3, 0, 0, 0), (24, .ireturn, 1, 0, 0, 0)]
noncomputable def ij_t72 : List (Nat × ij_E) := [(0, .aload_n 0, 1, 0, 0, 0), (1, .getfield 25, 3, 2, 4, 0), (4, .iconst 1, 1, 0, 0, 0), (5, .if_icmp .ne 19, 3, 0, 0, 0), (8, .aload_n 0, 1, 0, 0, 0), (9, .getfield 22, 3, 2, 3, 0), (12, .aload_n 0, 1, 0, 0, 0), (13, .getfield 28, 3, 2, 5, 0), (16, .isub, 1, 0, 0, 0), (17, .aload_n 1, 1, 0, 0, 0), (18, .invokevirtual 66, 3, 66, 0, 30), (21, .if_icmp .eq 5, 3, 0, 0, 0), (24, .iconst 0, 1, 0, 0, 0), (25, .ireturn, 1, 0, 0, 0), (26, .iconst 0, 1, 0, 0, 0), (27, .istore_n 2, 1, 0, 0, 0), (28, .iload_n 2, 1, 0, 0, 0), (29, .aload_n 1, 1, 0, 0, 0), (30, .invokevirtual 66, 3, 66, 0, 30), (33, .if_icmp .ge 29, 3, 0, 0, 0), (36, .aload_n 0, 1, 0, 0, 0), (37, .aload_n 0, 1, 0, 0, 0), (38, .getfield 28, 3, 2, 5, 0), (41, .iload_n 2, 1, 0, 0, 0), (42, .iadd, 1, 0, 0, 0), (43, .invokevirtual 40, 3, 56, 1, 12), (46, .aload_n 1, 1, 0, 0, 0), (47, .iload_n 2, 1, 0, 0, 0), (48, .invokevirtual 72, 3, 71, 1, 30), (51, .if_icmp .eq 5, 3, 0, 0, 0), (54, .iconst 0, 1, 0, 0, 0), (55, .ireturn, 1, 0, 0, 0), (56, .iinc 2 1, 3, 0, 0, 0), (59, .goto (-31), 3, 0, 0, 0), (62, .iconst 1, 1, 0, 0, 0), (63, .ireturn, 1, 0, 0, 0)]
noncomputable def ij_t73 : List (Nat × ij_E) := [(0, .aload_n 0, 1, 0, 0, 0), (1, .getfield 22, 3, 5, 0, 0), (4, .ldc 108, 2, 1, 0, 0), (6, .invokevirtual 110, 3, 72, 1, 12), (9, .ifCond .eq 5, 3, 0, 0, 0), (12, .iconst 0, 1, 0, 0, 0), (13, .ireturn, 1, 0, 0, 0), (14, .aload_n 0, 1, 0, 0, 0), (15, .getfield 22, 3, 5, 0, 0), (18, .ldc 114, 2, 1, 1, 0), (20, .invokevirtual 110, 3, 72, 1, 12), (23, .ifCond .eq 5, 3, 0, 0, 0), (26, .iconst 1, 1, 0, 0, 0), (27, .ireturn, 1, 0, 0, 0), (28, .aload_n 0, 1, 0, 0, 0), (29, .getfield 22, 3, 5, 0, 0), (32, .ldc 115, 2, 1, 2, 0), (34, .invokevirtual 110, 3, 72, 1, 12), (37, .ifCond .eq 5, 3, 0, 0, 0), (40, .iconst 2, 1, 0, 0, 0), (41, .ireturn, 1, 0, 0, 0), (42, .aload_n 0, 1, 0, 0, 0), (43, .getfield 22, 3, 5, 0, 0), (46, .ldc 117, 2, 1, 3, 0), (48, .invokevirtual 110, 3, 72, 1, 12), (51, .ifCond .eq 5, 3, 0, 0, 0), (54, .iconst 3, 1, 0, 0, 0), (55, .ireturn, 1, 0, 0, 0), (56, .aload_n 0, 1, 0, 0, 0), (57, .getfield 22, 3, 5, 0, 0), (60, .ldc 119, 2, 1, 4, 0), (62, .invokevirtual 110, 3, 72, 1, 12), (65, .ifCond .eq 5, 3, 0, 0, 0), (68, .iconst 4, 1, 0, 0, 0), (69, .ireturn, 1, 0, 0, 0), (70, .aload_n 0, 1, 0, 0, 0), (71, .getfield 22, 3, 5, 0, 0), (74, .ldc 121, 2, 1, 5, 0), (76, .invokevirtual 110, 3, 72, 1, 12), (79, .ifCond .eq 5, 3, 0, 0, 0), (82, .iconst 5, 1, 0, 0, 0), (83, .ireturn, 1, 0, 0, 0), (84, .aload_n 0, 1, 0, 0, 0), (85, .getfield 22, 3, 5, 0, 0), (88, .ldc 123, 2, 1, 6, 0), (90, .invokevirtual 110, 3, 72, 1, 12), (93, .ifCond .eq 6, 3, 0, 0, 0), (96, .bipush 6, 2, 0, 0, 0), (98, .ireturn, 1, 0, 0, 0), (99, .aload_n 0, 1, 0, 0, 0), (100, .getfield 22, 3, 5, 0, 0), (103, .ldc 125, 2, 1, 7, 0), (105, .invokevirtual 110, 3, 72, 1, 12), (108, .ifCond .eq 6, 3, 0, 0, 0), (111, .bipush 7, 2, 0, 0, 0), (113, .ireturn, 1, 0, 0, 0), (114, .aload_n 0, 1, 0, 0, 0), (115, .getfield 22, 3, 5, 0, 0), (118, .ldc 127, 2, 1, 8, 0), (120, .invokevirtual 110, 3, 72, 1, 12), (123, .ifCond .eq 6, 3, 0, 0, 0), (126, .bipush 8, 2, 0, 0, 0), (128, .ireturn, 1, 0, 0, 0), (129, .aload_n 0, 1, 0, 0, 0), (130, .getfield 22, 3, 5, 0, 0), (133, .ldc 129, 2, 1, 9, 0), (135, .invokevirtual 110, 3, 72, 1, 12), (138, .ifCond .eq 8, 3, 0, 0, 0), (141, .bipush 9, 2, 0, 0, 0), (143, .goto 4, 3, 0, 0, 0), (146, .iconst (-1), 1, 0, 0, 0), (147, .ireturn, 1, 0, 0, 0)]
noncomputable def ij_t74 : List (Nat × ij_E) := [(0, .iload_n 2, 1, 0, 0, 0), (1, .ifCond .lt 23, 3, 0, 0, 0), (4, .iload_n 2, 1, 0, 0, 0), (5, .bipush 64, 2, 0, 0, 0), (7, .if_icmp .ge 17, 3, 0, 0, 0), (10, .lload_n 0, 1, 0, 0, 0), (11, .iload_n 2, 1, 0, 0, 0), (12, .lushr, 1, 0, 0, 0), (13, .lconst 1, 1, 0, 0, 0), (14, .land, 1, 0, 0, 0), (15, .lconst 0, 1, 0, 0, 0), (16, .lcmp, 1, 0, 0, 0), (17, .ifCond .eq 7, 3, 0, 0, 0), (20, .iconst 1, 1, 0, 0, 0), (21, .goto 4, 3, 0, 0, 0), (24, .iconst 0, 1, 0, 0, 0), (25, .ireturn, 1, 0, 0, 0)]
noncomputable def ij_t75 : List (Nat × ij_E) := [(0, .iload_n 1, 1, 0, 0, 0), (1, .iconst 1, 1, 0, 0, 0), (2, .if_icmp .ne 53, 3, 0, 0, 0), (5, .iconst 2, 1, 0, 0, 0), (6, .invokestatic 60, 3, 6, 1, 1), (9, .iconst 5, 1, 0, 0, 0), (10, .invokestatic 60, 3, 6, 1, 1), (13, .lor, 1, 0, 0, 0), (14, .bipush 7, 2, 0, 0, 0), (16, .invokestatic 60, 3, 6, 1, 1), (19, .lor, 1, 0, 0, 0), (20, .bipush 8, 2, 0, 0, 0), (22, .invokestatic 60, 3, 6, 1, 1), (25, .lor, 1, 0, 0, 0), (26, .bipush 9, 2, 0, 0, 0), (28, .invokestatic 60, 3, 6, 1, 1), (31, .lor, 1, 0, 0, 0), (32, .lstore_n 2, 1, 0, 0, 0), (33, .aload_n 0, 1, 0, 0, 0), (34, .getfield 18, 3, 5, 2, 0), (37, .lload_n 2, 1, 0, 0, 0), (38, .iconst 1, 1, 0, 0, 0), (39, .invokestatic 60, 3, 6, 1, 1), (42, .lor, 1, 0, 0, 0), (43, .land, 1, 0, 0, 0), (44, .lconst 0, 1, 0, 0, 0), (45, .lcmp, 1, 0, 0, 0), (46, .ifCond .eq 7, 3, 0, 0, 0), (49, .iconst 1, 1, 0, 0, 0), (50, .goto 4, 3, 0, 0, 0), (53, .iconst 0, 1, 0, 0, 0), (54, .ireturn, 1, 0, 0, 0), (55, .iload_n 1, 1, 0, 0, 0), (56, .bipush 9, 2, 0, 0, 0), (58, .if_icmp .eq 18, 3, 0, 0, 0), (61, .aload_n 0, 1, 0, 0, 0), (62, .getfield 18, 3, 5, 2, 0), (65, .iload_n 1, 1, 0, 0, 0), (66, .invokestatic 94, 3, 74, 2, 1), (69, .ifCond .eq 7, 3, 0, 0, 0), (72, .iconst 1, 1, 0, 0, 0), (73, .goto 4, 3, 0, 0, 0), (76, .iconst 0, 1, 0, 0, 0), (77, .ireturn, 1, 0, 0, 0)]
noncomputable def ij_t76 : List (Nat × ij_E) := [(0, .aload_n 0, 1, 0, 0, 0), (1, .getfield 25, 3, 2, 4, 0), (4, .iconst 3, 1, 0, 0, 0), (5, .if_icmp .ne 15, 3, 0, 0, 0), (8, .aload_n 0, 1, 0, 0, 0), (9, .getfield 31, 3, 2, 6, 0), (12, .iload_n 1, 1, 0, 0, 0), (13, .if_icmp .ne 7, 3, 0, 0, 0), (16, .iconst 1, 1, 0, 0, 0), (17, .goto 4, 3, 0, 0, 0), (20, .iconst 0, 1, 0, 0, 0), (21, .ireturn, 1, 0, 0, 0)]
noncomputable def ij_t77 : List (Nat × ij_E) := [(0, .iload_n 1, 1, 0, 0, 0), (1, .ifCond .lt 17, 3, 0, 0, 0), (4, .iload_n 1, 1, 0, 0, 0), (5, .aload_n 0, 1, 0, 0, 0), (6, .getfield 9, 3, 4, 0, 0), (9, .iconst 1, 1, 0, 0, 0), (10, .iaload, 1, 0, 0, 0), (11, .if_icmp .ge 7, 3, 0, 0, 0), (14, .iconst 1, 1, 0, 0, 0), (15, .goto 4, 3, 0, 0, 0), (18, .iconst 0, 1, 0, 0, 0), (19, .ireturn, 1, 0, 0, 0)]
noncomputable def ij_t78 : List (Nat × ij_E) := [(0, .iconst 0, 1, 0, 0, 0), (1, .istore_n 1, 1, 0, 0, 0), (2, .iload_n 1, 1, 0, 0, 0), (3, .sipush 900, 3, 0, 0, 0), (6, .if_icmp .gt 132, 3, 0, 0, 0), (9, .aload_n 0, 1, 0, 0, 0), (10, .getfield 22, 3, 5, 0, 0), (13, .invokevirtual 35, 3, 64, 0, 12), (16, .ifCond .ne 5, 3, 0, 0, 0), (19, .iconst 0, 1, 0, 0, 0), (20, .ireturn, 1, 0, 0, 0), (21, .aload_n 0, 1, 0, 0, 0), (22, .getfield 22, 3, 5, 0, 0), (25, .bipush 59, 2, 0, 0, 0), (27, .invokevirtual 98, 3, 76, 1, 12), (30, .ifCond .eq 5, 3, 0, 0, 0), (33, .iconst 1, 1, 0, 0, 0), (34, .ireturn, 1, 0, 0, 0), (35, .aload_n 0, 1, 0, 0, 0), (36, .getfield 22, 3, 5, 0, 0), (39, .getfield 39, 3, 2, 4, 0), (42, .iconst 2, 1, 0, 0, 0), (43, .if_icmp .eq 12, 3, 0, 0, 0), (46, .aload_n 0, 1, 0, 0, 0), (47, .getfield 22, 3, 5, 0, 0), (50, .iconst 2, 1, 0, 0, 0), (51, .invokevirtual 54, 3, 63, 1, 12), (54, .ireturn, 1, 0, 0, 0), (55, .aload_n 0, 1, 0, 0, 0), (56, .getfield 12, 3, 5, 1, 0), (59, .aload_n 0, 1, 0, 0, 0), (60, .getfield 22, 3, 5, 0, 0), (63, .getfield 84, 3, 2, 6, 0), (66, .invokevirtual 102, 3, 77, 1, 14), (69, .ifCond .ne 12, 3, 0, 0, 0), (72, .aload_n 0, 1, 0, 0, 0), (73, .getfield 22, 3, 5, 0, 0), (76, .iconst 4, 1, 0, 0, 0), (77, .invokevirtual 54, 3, 63, 1, 12), (80, .ireturn, 1, 0, 0, 0), (81, .aload_n 0, 1, 0, 0, 0), (82, .getfield 12, 3, 5, 1, 0), (85, .getfield 105, 3, 4, 3, 0), (88, .aload_n 0, 1, 0, 0, 0), (89, .getfield 22, 3, 5, 0, 0), (92, .getfield 84, 3, 2, 6, 0), (95, .invokestatic 94, 3, 74, 2, 1), (98, .ifCond .eq 12, 3, 0, 0, 0), (101, .aload_n 0, 1, 0, 0, 0), (102, .getfield 22, 3, 5, 0, 0), (105, .iconst 5, 1, 0, 0, 0), (106, .invokevirtual 54, 3, 63, 1, 12), (109, .ireturn, 1, 0, 0, 0), (110, .aload_n 0, 1, 0, 0, 0), (111, .getfield 12, 3, 5, 1, 0), (114, .dup, 1, 0, 0, 0), (115, .getfield 105, 3, 4, 3, 0), (118, .aload_n 0, 1, 0, 0, 0), (119, .getfield 22, 3, 5, 0, 0), (122, .getfield 84, 3, 2, 6, 0), (125, .invokestatic 60, 3, 6, 1, 1), (128, .lor, 1, 0, 0, 0), (129, .putfield 105, 3, 4, 3, 0), (132, .iinc 1 1, 3, 0, 0, 0), (135, .goto (-133), 3, 0, 0, 0), (138, .aload_n 0, 1, 0, 0, 0), (139, .getfield 22, 3, 5, 0, 0), (142, .iconst 2, 1, 0, 0, 0), (143, .invokevirtual 54, 3, 63, 1, 12), (146, .ireturn, 1, 0, 0, 0)]
noncomputable def ij_t79 : List (Nat × ij_E) := [(0, .iload_n 0, 1, 0, 0, 0), (1, .ifCond .lt 19, 3, 0, 0, 0), (4, .iload_n 0, 1, 0, 0, 0), (5, .getstatic 402, 3, 1, 0, 0), (8, .arraylength, 1, 0, 0, 0), (9, .if_icmp .ge 11, 3, 0, 0, 0), (12, .getstatic 402, 3, 1, 0, 0), (15, .iload_n 0, 1, 0, 0, 0), (16, .iaload, 1, 0, 0, 0), (17, .goto 4, 3, 0, 0, 0), (20, .iconst 0, 1, 0, 0, 0), (21, .ireturn, 1, 0, 0, 0)]
noncomputable def ij_t80 : List (Nat × ij_E) := [(0, .aload_n 0, 1, 0, 0, 0), (1, .getfield 9, 3, 4, 0, 0), (4, .iconst 1, 1, 0, 0, 0), (5, .iaload, 1, 0, 0, 0), (6, .ireturn, 1, 0, 0, 0)]
noncomputable def ij_t81 : List (Nat × ij_E) := [(0, .iload_n 0, 1, 0, 0, 0), (1, .invokestatic 406, 3, 3, 1, 1), (4, .ifCond .eq 7, 3, 0, 0, 0), (7, .iload_n 1, 1, 0, 0, 0), (8, .iconst 1, 1, 0, 0, 0), (9, .isub, 1, 0, 0, 0), (10, .ireturn, 1, 0, 0, 0), (11, .iload_n 0, 1, 0, 0, 0), (12, .ifCond .lt 19, 3, 0, 0, 0), (15, .iload_n 0, 1, 0, 0, 0), (16, .getstatic 409, 3, 2, 0, 0), (19, .arraylength, 1, 0, 0, 0), (20, .if_icmp .ge 11, 3, 0, 0, 0), (23, .getstatic 409, 3, 2, 0, 0), (26, .iload_n 0, 1, 0, 0, 0), (27, .iaload, 1, 0, 0, 0), (28, .goto 4, 3, 0, 0, 0), (31, .iconst 0, 1, 0, 0, 0), (32, .ireturn, 1, 0, 0, 0)]
noncomputable def ij_t82 : List (Nat × ij_E) := [(0, .aload_n 0, 1, 0, 0, 0), (1, .invokevirtual 76, 3, 64, 0, 12), (4, .ifCond .ne 5, 3, 0, 0, 0), (7, .iconst 0, 1, 0, 0, 0), (8, .ireturn, 1, 0, 0, 0), (9, .aload_n 0, 1, 0, 0, 0), (10, .getfield 25, 3, 2, 4, 0), (13, .iconst 2, 1, 0, 0, 0), (14, .if_icmp .eq 9, 3, 0, 0, 0), (17, .aload_n 0, 1, 0, 0, 0), (18, .iconst 2, 1, 0, 0, 0), (19, .invokevirtual 63, 3, 63, 1, 12), (22, .ireturn, 1, 0, 0, 0), (23, .aload_n 0, 1, 0, 0, 0), (24, .getfield 31, 3, 2, 6, 0), (27, .iload_n 1, 1, 0, 0, 0), (28, .if_icmp .lt 11, 3, 0, 0, 0), (31, .aload_n 0, 1, 0, 0, 0), (32, .getfield 31, 3, 2, 6, 0), (35, .iload_n 2, 1, 0, 0, 0), (36, .if_icmp .le 11, 3, 0, 0, 0), (39, .aload_n 0, 1, 0, 0, 0), (40, .iconst 4, 1, 0, 0, 0), (41, .invokevirtual 63, 3, 63, 1, 12), (44, .ifCond .eq 7, 3, 0, 0, 0), (47, .iconst 1, 1, 0, 0, 0), (48, .goto 4, 3, 0, 0, 0), (51, .iconst 0, 1, 0, 0, 0), (52, .ireturn, 1, 0, 0, 0)]
noncomputable def ij_t83 : List (Nat × ij_E) := [(0, .iload_n 1, 1, 0, 0, 0), (1, .ifCond .lt 19, 3, 0, 0, 0), (4, .iload_n 1, 1, 0, 0, 0), (5, .aload_n 0, 1, 0, 0, 0), (6, .getfield 9, 3, 4, 0, 0), (9, .arraylength, 1, 0, 0, 0), (10, .if_icmp .ge 10, 3, 0, 0, 0), (13, .aload_n 0, 1, 0, 0, 0), (14, .getfield 9, 3, 4, 0, 0), (17, .iload_n 1, 1, 0, 0, 0), (18, .iload_n 2, 1, 0, 0, 0), (19, .iastore, 1, 0, 0, 0), (20, .return_, 1, 0, 0, 0)]
noncomputable def ij_t84 : List (Nat × ij_E) := [(0, .aload_n 0, 1, 0, 0, 0), (1, .invokevirtual 76, 3, 64, 0, 12), (4, .ifCond .eq 24, 3, 0, 0, 0), (7, .aload_n 0, 1, 0, 0, 0), (8, .bipush 59, 2, 0, 0, 0), (10, .invokevirtual 80, 3, 76, 1, 12), (13, .ifCond .ne 11, 3, 0, 0, 0), (16, .aload_n 0, 1, 0, 0, 0), (17, .iconst 2, 1, 0, 0, 0), (18, .invokevirtual 63, 3, 63, 1, 12), (21, .ifCond .eq 7, 3, 0, 0, 0), (24, .iconst 1, 1, 0, 0, 0), (25, .goto 4, 3, 0, 0, 0), (28, .iconst 0, 1, 0, 0, 0), (29, .ireturn, 1, 0, 0, 0)]
noncomputable def ij_t85 : List (Nat × ij_E) := [(0, .iload_n 1, 1, 0, 0, 0), (1, .iconst (-1), 1, 0, 0, 0), (2, .if_icmp .ne 12, 3, 0, 0, 0), (5, .aload_n 0, 1, 0, 0, 0), (6, .getfield 22, 3, 5, 0, 0), (9, .iconst 2, 1, 0, 0, 0), (10, .invokevirtual 54, 3, 63, 1, 12), (13, .ireturn, 1, 0, 0, 0), (14, .aload_n 0, 1, 0, 0, 0), (15, .iload_n 1, 1, 0, 0, 0), (16, .invokevirtual 57, 3, 75, 1, 15), (19, .ifCond .eq 12, 3, 0, 0, 0), (22, .aload_n 0, 1, 0, 0, 0), (23, .getfield 22, 3, 5, 0, 0), (26, .iconst 5, 1, 0, 0, 0), (27, .invokevirtual 54, 3, 63, 1, 12), (30, .ireturn, 1, 0, 0, 0), (31, .aload_n 0, 1, 0, 0, 0), (32, .dup, 1, 0, 0, 0), (33, .getfield 18, 3, 5, 2, 0), (36, .iload_n 1, 1, 0, 0, 0), (37, .invokestatic 60, 3, 6, 1, 1), (40, .lor, 1, 0, 0, 0), (41, .putfield 18, 3, 5, 2, 0), (44, .iload_n 1, 1, 0, 0, 0), (45, .bipush 9, 2, 0, 0, 0), (47, .if_icmp .ne 8, 3, 0, 0, 0), (50, .aload_n 0, 1, 0, 0, 0), (51, .invokevirtual 66, 3, 78, 0, 15), (54, .ireturn, 1, 0, 0, 0), (55, .aload_n 0, 1, 0, 0, 0), (56, .getfield 22, 3, 5, 0, 0), (59, .iload_n 1, 1, 0, 0, 0), (60, .invokestatic 69, 3, 79, 1, 4), (63, .iload_n 1, 1, 0, 0, 0), (64, .aload_n 0, 1, 0, 0, 0), (65, .getfield 12, 3, 5, 1, 0), (68, .invokevirtual 73, 3, 80, 0, 14), (71, .invokestatic 76, 3, 81, 2, 4), (74, .invokevirtual 80, 3, 82, 2, 12), (77, .ifCond .ne 5, 3, 0, 0, 0), (80, .iconst 0, 1, 0, 0, 0), (81, .ireturn, 1, 0, 0, 0), (82, .aload_n 0, 1, 0, 0, 0), (83, .getfield 12, 3, 5, 1, 0), (86, .iload_n 1, 1, 0, 0, 0), (87, .aload_n 0, 1, 0, 0, 0), (88, .getfield 22, 3, 5, 0, 0), (91, .getfield 84, 3, 2, 6, 0), (94, .invokevirtual 87, 3, 83, 2, 14), (97, .aload_n 0, 1, 0, 0, 0), (98, .getfield 22, 3, 5, 0, 0), (101, .invokevirtual 91, 3, 84, 0, 12), (104, .ireturn, 1, 0, 0, 0)]
noncomputable def ij_t86 : List (Nat × ij_E) := [(0, .aload_n 0, 1, 0, 0, 0), (1, .getfield 22, 3, 5, 0, 0), (4, .iload_n 1, 1, 0, 0, 0), (5, .invokevirtual 26, 3, 55, 1, 12), (8, .aload_n 0, 1, 0, 0, 0), (9, .getfield 12, 3, 5, 1, 0), (12, .invokevirtual 32, 3, 2, 0, 14), (15, .aload_n 0, 1, 0, 0, 0), (16, .lconst 0, 1, 0, 0, 0), (17, .putfield 18, 3, 5, 2, 0), (20, .iconst 0, 1, 0, 0, 0), (21, .istore_n 2, 1, 0, 0, 0), (22, .iload_n 2, 1, 0, 0, 0), (23, .sipush 900, 3, 0, 0, 0), (26, .if_icmp .gt 53, 3, 0, 0, 0), (29, .aload_n 0, 1, 0, 0, 0), (30, .getfield 22, 3, 5, 0, 0), (33, .invokevirtual 35, 3, 64, 0, 12), (36, .ifCond .ne 5, 3, 0, 0, 0), (39, .iconst 0, 1, 0, 0, 0), (40, .ireturn, 1, 0, 0, 0), (41, .aload_n 0, 1, 0, 0, 0), (42, .getfield 22, 3, 5, 0, 0), (45, .getfield 39, 3, 2, 4, 0), (48, .ifCond .ne 12, 3, 0, 0, 0), (51, .aload_n 0, 1, 0, 0, 0), (52, .getfield 12, 3, 5, 1, 0), (55, .invokevirtual 43, 3, 9, 0, 14), (58, .iconst 1, 1, 0, 0, 0), (59, .ireturn, 1, 0, 0, 0), (60, .aload_n 0, 1, 0, 0, 0), (61, .aload_n 0, 1, 0, 0, 0), (62, .invokevirtual 46, 3, 73, 0, 15), (65, .invokevirtual 50, 3, 85, 1, 15), (68, .ifCond .ne 5, 3, 0, 0, 0), (71, .iconst 0, 1, 0, 0, 0), (72, .ireturn, 1, 0, 0, 0), (73, .iinc 2 1, 3, 0, 0, 0), (76, .goto (-54), 3, 0, 0, 0), (79, .aload_n 0, 1, 0, 0, 0), (80, .getfield 22, 3, 5, 0, 0), (83, .iconst 2, 1, 0, 0, 0), (84, .invokevirtual 54, 3, 63, 1, 12), (87, .ireturn, 1, 0, 0, 0)]
noncomputable def ij_t87 : List (Nat × ij_E) := [(0, .aload_n 1, 1, 0, 0, 0), (1, .getfield 9, 3, 4, 0, 0), (4, .iconst 0, 1, 0, 0, 0), (5, .aload_n 0, 1, 0, 0, 0), (6, .getfield 9, 3, 4, 0, 0), (9, .iconst 0, 1, 0, 0, 0), (10, .bipush 9, 2, 0, 0, 0), (12, .invokestatic 27, 3, 999998, 0, 6), (15, .aload_n 1, 1, 0, 0, 0), (16, .getfield 15, 3, 4, 1, 0), (19, .iconst 0, 1, 0, 0, 0), (20, .aload_n 0, 1, 0, 0, 0), (21, .getfield 15, 3, 4, 1, 0), (24, .iconst 0, 1, 0, 0, 0), (25, .bipush 12, 2, 0, 0, 0), (27, .invokestatic 27, 3, 999998, 0, 6), (30, .aload_n 0, 1, 0, 0, 0), (31, .aload_n 1, 1, 0, 0, 0), (32, .getfield 33, 3, 4, 2, 0), (35, .putfield 33, 3, 4, 2, 0), (38, .aload_n 0, 1, 0, 0, 0), (39, .aload_n 1, 1, 0, 0, 0), (40, .getfield 37, 3, 4, 3, 0), (43, .putfield 37, 3, 4, 3, 0), (46, .aload_n 0, 1, 0, 0, 0), (47, .aload_n 1, 1, 0, 0, 0), (48, .getfield 41, 3, 4, 4, 0), (51, .putfield 41, 3, 4, 4, 0), (54, .return_, 1, 0, 0, 0)]
noncomputable def ij_t88 : List (Nat × ij_E) := [(0, .lload_n 0, 1, 0, 0, 0), (1, .lload_n 0, 1, 0, 0, 0), (2, .iconst 1, 1, 0, 0, 0), (3, .lushr, 1, 0, 0, 0), (4, .ldc2_w 314, 3, 0, 6148914691236517205, 0), (7, .land, 1, 0, 0, 0), (8, .lsub, 1, 0, 0, 0), (9, .lstore_n 0, 1, 0, 0, 0), (10, .lload_n 0, 1, 0, 0, 0), (11, .ldc2_w 316, 3, 0, 3689348814741910323, 0), (14, .land, 1, 0, 0, 0), (15, .lload_n 0, 1, 0, 0, 0), (16, .iconst 2, 1, 0, 0, 0), (17, .lushr, 1, 0, 0, 0), (18, .ldc2_w 316, 3, 0, 3689348814741910323, 0), (21, .land, 1, 0, 0, 0), (22, .ladd, 1, 0, 0, 0), (23, .lstore_n 0, 1, 0, 0, 0), (24, .lload_n 0, 1, 0, 0, 0), (25, .lload_n 0, 1, 0, 0, 0), (26, .iconst 4, 1, 0, 0, 0), (27, .lushr, 1, 0, 0, 0), (28, .ladd, 1, 0, 0, 0), (29, .ldc2_w 318, 3, 0, 1085102592571150095, 0), (32, .land, 1, 0, 0, 0), (33, .lstore_n 0, 1, 0, 0, 0), (34, .lload_n 0, 1, 0, 0, 0), (35, .lload_n 0, 1, 0, 0, 0), (36, .bipush 8, 2, 0, 0, 0), (38, .lushr, 1, 0, 0, 0), (39, .ladd, 1, 0, 0, 0), (40, .lstore_n 0, 1, 0, 0, 0), (41, .lload_n 0, 1, 0, 0, 0), (42, .lload_n 0, 1, 0, 0, 0), (43, .bipush 16, 2, 0, 0, 0), (45, .lushr, 1, 0, 0, 0), (46, .ladd, 1, 0, 0, 0), (47, .lstore_n 0, 1, 0, 0, 0), (48, .lload_n 0, 1, 0, 0, 0), (49, .lload_n 0, 1, 0, 0, 0), (50, .bipush 32, 2, 0, 0, 0), (52, .lushr, 1, 0, 0, 0), (53, .ladd, 1, 0, 0, 0), (54, .lstore_n 0, 1, 0, 0, 0), (55, .lload_n 0, 1, 0, 0, 0), (56, .l2i, 1, 0, 0, 0), (57, .bipush 127, 2, 0, 0, 0), (59, .iand, 1, 0, 0, 0), (60, .ireturn, 1, 0, 0, 0)]
noncomputable def ij_t89 : List (Nat × ij_E) := [(0, .aload_n 0, 1, 0, 0, 0), (1, .getfield 41, 3, 4, 4, 0), (4, .invokestatic 71, 3, 88, 1, 1), (7, .ireturn, 1, 0, 0, 0)]
noncomputable def ij_t90 : List (Nat × ij_E) := [(0, .aload_n 0, 1, 0, 0, 0), (1, .iconst 0, 1, 0, 0, 0), (2, .putfield 7, 3, 10, 0, 0), (5, .iload_n 1, 1, 0, 0, 0), (6, .ireturn, 1, 0, 0, 0)]
noncomputable def ij_t91 : List (Nat × ij_E) := [(0, .iload_n 1, 1, 0, 0, 0), (1, .ifCond .lt 14, 3, 0, 0, 0), (4, .iload_n 1, 1, 0, 0, 0), (5, .aload_n 0, 1, 0, 0, 0), (6, .getfield 30, 3, 10, 4, 0), (9, .getfield 166, 3, 2, 1, 0), (12, .if_icmp .le 9, 3, 0, 0, 0), (15, .aload_n 0, 1, 0, 0, 0), (16, .iconst 1, 1, 0, 0, 0), (17, .invokevirtual 139, 3, 44, 1, 20), (20, .ireturn, 1, 0, 0, 0), (21, .aload_n 0, 1, 0, 0, 0), (22, .getfield 39, 3, 10, 5, 0), (25, .iload_n 1, 1, 0, 0, 0), (26, .invokevirtual 173, 3, 86, 1, 15), (29, .istore_n 2, 1, 0, 0, 0), (30, .aload_n 0, 1, 0, 0, 0), (31, .getfield 30, 3, 10, 4, 0), (34, .iconst 0, 1, 0, 0, 0), (35, .putfield 166, 3, 2, 1, 0), (38, .iload_n 2, 1, 0, 0, 0), (39, .ifCond .ne 10, 3, 0, 0, 0), (42, .aload_n 0, 1, 0, 0, 0), (43, .bipush 9, 2, 0, 0, 0), (45, .invokevirtual 139, 3, 44, 1, 20), (48, .ireturn, 1, 0, 0, 0), (49, .aload_n 0, 1, 0, 0, 0), (50, .getfield 53, 3, 10, 7, 0), (53, .aload_n 0, 1, 0, 0, 0), (54, .getfield 39, 3, 10, 5, 0), (57, .getfield 176, 3, 5, 1, 0), (60, .invokevirtual 179, 3, 87, 1, 14), (63, .aload_n 0, 1, 0, 0, 0), (64, .getfield 60, 3, 10, 8, 0), (67, .iconst 0, 1, 0, 0, 0), (68, .putfield 183, 3, 6, 5, 0), (71, .aload_n 0, 1, 0, 0, 0), (72, .aload_n 0, 1, 0, 0, 0), (73, .getfield 53, 3, 10, 7, 0), (76, .invokevirtual 187, 3, 89, 0, 14), (79, .invokevirtual 191, 3, 90, 1, 20), (82, .ireturn, 1, 0, 0, 0)]
noncomputable def ij_t92 : List (Nat × ij_E) := [(0, .iload_n 1, 1, 0, 0, 0), (1, .aload_n 0, 1, 0, 0, 0), (2, .getfield 148, 3, 11, 10, 0), (5, .if_icmp .ge 16, 3, 0, 0, 0), (8, .aload_n 0, 1, 0, 0, 0), (9, .getfield 31, 3, 11, 8, 0), (12, .iload_n 1, 1, 0, 0, 0), (13, .baload, 1, 0, 0, 0), (14, .sipush 255, 3, 0, 0, 0), (17, .iand, 1, 0, 0, 0), (18, .goto 4, 3, 0, 0, 0), (21, .iconst (-1), 1, 0, 0, 0), (22, .ireturn, 1, 0, 0, 0)]
noncomputable def ij_t93 : List (Nat × ij_E) := [(0, .iload_n 0, 1, 0, 0, 0), (1, .bipush 97, 2, 0, 0, 0), (3, .if_icmp .lt 13, 3, 0, 0, 0), (6, .iload_n 0, 1, 0, 0, 0), (7, .bipush 122, 2, 0, 0, 0), (9, .if_icmp .gt 7, 3, 0, 0, 0), (12, .iconst 1, 1, 0, 0, 0), (13, .goto 4, 3, 0, 0, 0), (16, .iconst 0, 1, 0, 0, 0), (17, .ireturn, 1, 0, 0, 0)]
noncomputable def ij_t94 : List (Nat × ij_E) := [(0, .iload_n 0, 1, 0, 0, 0), (1, .bipush 48, 2, 0, 0, 0), (3, .if_icmp .lt 13, 3, 0, 0, 0), (6, .iload_n 0, 1, 0, 0, 0), (7, .bipush 57, 2, 0, 0, 0), (9, .if_icmp .gt 7, 3, 0, 0, 0), (12, .iconst 1, 1, 0, 0, 0), (13, .goto 4, 3, 0, 0, 0), (16, .iconst 0, 1, 0, 0, 0), (17, .ireturn, 1, 0, 0, 0)]
noncomputable def ij_t95 : List (Nat × ij_E) := [(0, .iload_n 0, 1, 0, 0, 0), (1, .iload_n 1, 1, 0, 0, 0), (2, .if_icmp .gt 7, 3, 0, 0, 0), (5, .iload_n 0, 1, 0, 0, 0), (6, .goto 4, 3, 0, 0, 0), (9, .iload_n 1, 1, 0, 0, 0), (10, .ireturn, 1, 0, 0, 0)]
noncomputable def ij_t96 : List (Nat × ij_E) := [(0, .aload_n 0, 1, 0, 0, 0), (1, .aload_n 0, 1, 0, 0, 0), (2, .getfield 151, 3, 11, 13, 0), (5, .invokevirtual 154, 3, 92, 1, 21), (8, .bipush 32, 2, 0, 0, 0), (10, .if_icmp .eq 16, 3, 0, 0, 0), (13, .aload_n 0, 1, 0, 0, 0), (14, .aload_n 0, 1, 0, 0, 0), (15, .getfield 151, 3, 11, 13, 0), (18, .invokevirtual 154, 3, 92, 1, 21), (21, .bipush 10, 2, 0, 0, 0), (23, .if_icmp .ne 16, 3, 0, 0, 0), (26, .aload_n 0, 1, 0, 0, 0), (27, .dup, 1, 0, 0, 0), (28, .getfield 151, 3, 11, 13, 0), (31, .iconst 1, 1, 0, 0, 0), (32, .iadd, 1, 0, 0, 0), (33, .putfield 151, 3, 11, 13, 0), (36, .goto (-36), 3, 0, 0, 0), (39, .aload_n 0, 1, 0, 0, 0), (40, .aload_n 0, 1, 0, 0, 0), (41, .getfield 151, 3, 11, 13, 0), (44, .putfield 157, 3, 11, 12, 0), (47, .aload_n 0, 1, 0, 0, 0), (48, .aload_n 0, 1, 0, 0, 0), (49, .getfield 151, 3, 11, 13, 0), (52, .invokevirtual 154, 3, 92, 1, 21), (55, .istore_n 1, 1, 0, 0, 0), (56, .aload_n 0, 1, 0, 0, 0), (57, .iload_n 1, 1, 0, 0, 0), (58, .putfield 160, 3, 11, 14, 0), (61, .iload_n 1, 1, 0, 0, 0), (62, .iconst (-1), 1, 0, 0, 0), (63, .if_icmp .ne 11, 3, 0, 0, 0), (66, .aload_n 0, 1, 0, 0, 0), (67, .iconst 0, 1, 0, 0, 0), (68, .putfield 163, 3, 11, 11, 0), (71, .goto 180, 3, 0, 0, 0), (74, .iload_n 1, 1, 0, 0, 0), (75, .invokestatic 166, 3, 93, 1, 1), (78, .ifCond .eq 38, 3, 0, 0, 0), (81, .aload_n 0, 1, 0, 0, 0), (82, .aload_n 0, 1, 0, 0, 0), (83, .getfield 151, 3, 11, 13, 0), (86, .invokevirtual 154, 3, 92, 1, 21), (89, .invokestatic 166, 3, 93, 1, 1), (92, .ifCond .eq 16, 3, 0, 0, 0), (95, .aload_n 0, 1, 0, 0, 0), (96, .dup, 1, 0, 0, 0), (97, .getfield 151, 3, 11, 13, 0), (100, .iconst 1, 1, 0, 0, 0), (101, .iadd, 1, 0, 0, 0), (102, .putfield 151, 3, 11, 13, 0), (105, .goto (-24), 3, 0, 0, 0), (108, .aload_n 0, 1, 0, 0, 0), (109, .iconst 2, 1, 0, 0, 0), (110, .putfield 163, 3, 11, 11, 0), (113, .goto 138, 3, 0, 0, 0), (116, .iload_n 1, 1, 0, 0, 0), (117, .invokestatic 169, 3, 94, 1, 1), (120, .ifCond .eq 88, 3, 0, 0, 0), (123, .aload_n 0, 1, 0, 0, 0), (124, .iconst 0, 1, 0, 0, 0), (125, .putfield 160, 3, 11, 14, 0), (128, .aload_n 0, 1, 0, 0, 0), (129, .aload_n 0, 1, 0, 0, 0), (130, .getfield 151, 3, 11, 13, 0), (133, .invokevirtual 154, 3, 92, 1, 21), (136, .invokestatic 169, 3, 94, 1, 1), (139, .ifCond .eq 44, 3, 0, 0, 0), (142, .aload_n 0, 1, 0, 0, 0), (143, .ldc 172, 2, 0, 100000, 0), (145, .bipush 10, 2, 0, 0, 0), (147, .aload_n 0, 1, 0, 0, 0), (148, .getfield 160, 3, 11, 14, 0), (151, .imul, 1, 0, 0, 0), (152, .aload_n 0, 1, 0, 0, 0), (153, .aload_n 0, 1, 0, 0, 0), (154, .getfield 151, 3, 11, 13, 0), (157, .invokevirtual 154, 3, 92, 1, 21), (160, .iadd, 1, 0, 0, 0), (161, .bipush 48, 2, 0, 0, 0), (163, .isub, 1, 0, 0, 0), (164, .invokestatic 173, 3, 95, 2, 1), (167, .putfield 160, 3, 11, 14, 0), (170, .aload_n 0, 1, 0, 0, 0), (171, .dup, 1, 0, 0, 0), (172, .getfield 151, 3, 11, 13, 0), (175, .iconst 1, 1, 0, 0, 0), (176, .iadd, 1, 0, 0, 0), (177, .putfield 151, 3, 11, 13, 0), (180, .goto (-52), 3, 0, 0, 0), (183, .aload_n 0, 1, 0, 0, 0), (184, .aload_n 0, 1, 0, 0, 0), (185, .getfield 151, 3, 11, 13, 0), (188, .aload_n 0, 1, 0, 0, 0), (189, .getfield 157, 3, 11, 12, 0), (192, .isub, 1, 0, 0, 0), (193, .iconst 4, 1, 0, 0, 0), (194, .if_icmp .le 7, 3, 0, 0, 0), (197, .iconst 1, 1, 0, 0, 0), (198, .goto 4, 3, 0, 0, 0), (201, .iconst 3, 1, 0, 0, 0), (202, .putfield 163, 3, 11, 11, 0), (205, .goto 46, 3, 0, 0, 0), (208, .aload_n 0, 1, 0, 0, 0), (209, .dup, 1, 0, 0, 0), (210, .getfield 151, 3, 11, 13, 0), (213, .iconst 1, 1, 0, 0, 0), (214, .iadd, 1, 0, 0, 0), (215, .putfield 151, 3, 11, 13, 0), (218, .aload_n 0, 1, 0, 0, 0), (219, .iload_n 1, 1, 0, 0, 0), (220, .bipush 59, 2, 0, 0, 0), (222, .if_icmp .eq 21, 3, 0, 0, 0), (225, .iload_n 1, 1, 0, 0, 0), (226, .bipush 60, 2, 0, 0, 0), (228, .if_icmp .eq 15, 3, 0, 0, 0), (231, .iload_n 1, 1, 0, 0, 0), (232, .bipush 62, 2, 0, 0, 0), (234, .if_icmp .eq 9, 3, 0, 0, 0), (237, .iload_n 1, 1, 0, 0, 0), (238, .bipush 61, 2, 0, 0, 0), (240, .if_icmp .ne 7, 3, 0, 0, 0), (243, .iconst 4, 1, 0, 0, 0), (244, .goto 4, 3, 0, 0, 0), (247, .iconst 1, 1, 0, 0, 0), (248, .putfield 163, 3, 11, 11, 0), (251, .return_, 1, 0, 0, 0)]
noncomputable def ij_t97 : List (Nat × ij_E) := [(0, .iload_n 1, 1, 0, 0, 0), (1, .ifCond .lt 16, 3, 0, 0, 0), (4, .iload_n 1, 1, 0, 0, 0), (5, .aload_n 0, 1, 0, 0, 0), (6, .getfield 142, 3, 11, 9, 0), (9, .if_icmp .gt 8, 3, 0, 0, 0), (12, .iload_n 1, 1, 0, 0, 0), (13, .iload_n 2, 1, 0, 0, 0), (14, .if_icmp .le 5, 3, 0, 0, 0), (17, .iconst 0, 1, 0, 0, 0), (18, .ireturn, 1, 0, 0, 0), (19, .aload_n 0, 1, 0, 0, 0), (20, .iload_n 1, 1, 0, 0, 0), (21, .putfield 148, 3, 11, 10, 0), (24, .iconst 0, 1, 0, 0, 0), (25, .istore_n 3, 1, 0, 0, 0), (26, .iload_n 3, 1, 0, 0, 0), (27, .iload_n 1, 1, 0, 0, 0), (28, .if_icmp .ge 21, 3, 0, 0, 0), (31, .aload_n 0, 1, 0, 0, 0), (32, .getfield 31, 3, 11, 8, 0), (35, .iload_n 3, 1, 0, 0, 0), (36, .aload_n 0, 1, 0, 0, 0), (37, .getfield 27, 3, 11, 7, 0), (40, .iload_n 3, 1, 0, 0, 0), (41, .baload, 1, 0, 0, 0), (42, .bastore, 1, 0, 0, 0), (43, .iinc 3 1, 3, 0, 0, 0), (46, .goto (-20), 3, 0, 0, 0), (49, .aload_n 0, 1, 0, 0, 0), (50, .iconst 0, 1, 0, 0, 0), (51, .putfield 142, 3, 11, 9, 0), (54, .aload_n 0, 1, 0, 0, 0), (55, .iconst 0, 1, 0, 0, 0), (56, .putfield 188, 3, 11, 17, 0), (59, .aload_n 0, 1, 0, 0, 0), (60, .iconst (-1), 1, 0, 0, 0), (61, .putfield 38, 3, 11, 16, 0), (64, .aload_n 0, 1, 0, 0, 0), (65, .iconst 0, 1, 0, 0, 0), (66, .putfield 151, 3, 11, 13, 0), (69, .aload_n 0, 1, 0, 0, 0), (70, .invokevirtual 191, 3, 96, 0, 21), (73, .iconst 1, 1, 0, 0, 0), (74, .ireturn, 1, 0, 0, 0)]
noncomputable def ij_t98 : List (Nat × ij_E) := [(0, .aload_n 0, 1, 0, 0, 0), (1, .iload_n 1, 1, 0, 0, 0), (2, .putfield 112, 3, 11, 1, 0), (5, .iconst (-1), 1, 0, 0, 0), (6, .ireturn, 1, 0, 0, 0)]
noncomputable def ij_t99 : List (Nat × ij_E) := [(0, .aload_n 0, 1, 0, 0, 0), (1, .getfield 163, 3, 11, 11, 0), (4, .iconst 2, 1, 0, 0, 0), (5, .if_icmp .eq 5, 3, 0, 0, 0), (8, .iconst (-1), 1, 0, 0, 0), (9, .ireturn, 1, 0, 0, 0), (10, .iconst 0, 1, 0, 0, 0), (11, .istore_n 2, 1, 0, 0, 0), (12, .iconst 1, 1, 0, 0, 0), (13, .istore_n 3, 1, 0, 0, 0), (14, .iload_n 3, 1, 0, 0, 0), (15, .aload_n 1, 1, 0, 0, 0), (16, .invokevirtual 178, 3, 66, 0, 30), (19, .if_icmp .ge 114, 3, 0, 0, 0), (22, .iload_n 3, 1, 0, 0, 0), (23, .istore 4, 2, 0, 0, 0), (25, .aload_n 1, 1, 0, 0, 0), (26, .iload 4, 2, 0, 0, 0), (28, .invokevirtual 184, 3, 71, 1, 30), (31, .bipush 32, 2, 0, 0, 0), (33, .if_icmp .eq 9, 3, 0, 0, 0), (36, .iinc 4 1, 3, 0, 0, 0), (39, .goto (-14), 3, 0, 0, 0), (42, .iload 4, 2, 0, 0, 0), (44, .iload_n 3, 1, 0, 0, 0), (45, .isub, 1, 0, 0, 0), (46, .aload_n 0, 1, 0, 0, 0), (47, .getfield 151, 3, 11, 13, 0), (50, .aload_n 0, 1, 0, 0, 0), (51, .getfield 157, 3, 11, 12, 0), (54, .isub, 1, 0, 0, 0), (55, .if_icmp .ne 7, 3, 0, 0, 0), (58, .iconst 1, 1, 0, 0, 0), (59, .goto 4, 3, 0, 0, 0), (62, .iconst 0, 1, 0, 0, 0), (63, .istore 5, 2, 0, 0, 0), (65, .iload_n 3, 1, 0, 0, 0), (66, .istore 6, 2, 0, 0, 0), (68, .iload 6, 2, 0, 0, 0), (70, .iload 4, 2, 0, 0, 0), (72, .if_icmp .ge 43, 3, 0, 0, 0), (75, .iload 5, 2, 0, 0, 0), (77, .ifCond .eq 38, 3, 0, 0, 0), (80, .aload_n 1, 1, 0, 0, 0), (81, .iload 6, 2, 0, 0, 0), (83, .invokevirtual 184, 3, 71, 1, 30), (86, .aload_n 0, 1, 0, 0, 0), (87, .aload_n 0, 1, 0, 0, 0), (88, .getfield 157, 3, 11, 12, 0), (91, .iload 6, 2, 0, 0, 0), (93, .iadd, 1, 0, 0, 0), (94, .iload_n 3, 1, 0, 0, 0), (95, .isub, 1, 0, 0, 0), (96, .invokevirtual 154, 3, 92, 1, 21), (99, .if_icmp .ne 7, 3, 0, 0, 0), (102, .iconst 1, 1, 0, 0, 0), (103, .goto 4, 3, 0, 0, 0), (106, .iconst 0, 1, 0, 0, 0), (107, .istore 5, 2, 0, 0, 0), (109, .iinc 6 1, 3, 0, 0, 0), (112, .goto (-44), 3, 0, 0, 0), (115, .iload 5, 2, 0, 0, 0), (117, .ifCond .eq 5, 3, 0, 0, 0), (120, .iload_n 2, 1, 0, 0, 0), (121, .ireturn, 1, 0, 0, 0), (122, .iinc 2 1, 3, 0, 0, 0), (125, .iload 4, 2, 0, 0, 0), (127, .iconst 1, 1, 0, 0, 0), (128, .iadd, 1, 0, 0, 0), (129, .istore_n 3, 1, 0, 0, 0), (130, .goto (-116), 3, 0, 0, 0), (133, .iconst (-1), 1, 0, 0, 0), (134, .ireturn, 1, 0, 0, 0)]
noncomputable def ij_t100 : List (Nat × ij_E) := [(0, .aload_n 0, 1, 0, 0, 0), (1, .getfield 188, 3, 11, 17, 0), (4, .ifCond .ne 28, 3, 0, 0, 0), (7, .aload_n 0, 1, 0, 0, 0), (8, .aload_n 0, 1, 0, 0, 0), (9, .getfield 163, 3, 11, 11, 0), (12, .iconst 1, 1, 0, 0, 0), (13, .if_icmp .ne 7, 3, 0, 0, 0), (16, .iconst 1, 1, 0, 0, 0), (17, .goto 4, 3, 0, 0, 0), (20, .iload_n 1, 1, 0, 0, 0), (21, .putfield 188, 3, 11, 17, 0), (24, .aload_n 0, 1, 0, 0, 0), (25, .aload_n 0, 1, 0, 0, 0), (26, .getfield 157, 3, 11, 12, 0), (29, .putfield 38, 3, 11, 16, 0), (32, .iconst 0, 1, 0, 0, 0), (33, .ireturn, 1, 0, 0, 0)]
noncomputable def ij_t101 : List (Nat × ij_E) := [(0, .iload_n 1, 1, 0, 0, 0), (1, .iload_n 2, 1, 0, 0, 0), (2, .ishr, 1, 0, 0, 0), (3, .iconst 1, 1, 0, 0, 0), (4, .iand, 1, 0, 0, 0), (5, .iconst 1, 1, 0, 0, 0), (6, .if_icmp .ne 7, 3, 0, 0, 0), (9, .iconst 1, 1, 0, 0, 0), (10, .goto 4, 3, 0, 0, 0), (13, .iconst 0, 1, 0, 0, 0), (14, .ireturn, 1, 0, 0, 0)]
noncomputable def ij_t102 : List (Nat × ij_E) := [(0, .aload_n 0, 1, 0, 0, 0), (1, .getfield 163, 3, 11, 11, 0), (4, .iconst 3, 1, 0, 0, 0), (5, .if_icmp .eq 9, 3, 0, 0, 0), (8, .aload_n 0, 1, 0, 0, 0), (9, .iconst 2, 1, 0, 0, 0), (10, .invokevirtual 197, 3, 100, 1, 21), (13, .ireturn, 1, 0, 0, 0), (14, .aload_n 0, 1, 0, 0, 0), (15, .getfield 160, 3, 11, 14, 0), (18, .iload_n 2, 1, 0, 0, 0), (19, .if_icmp .lt 11, 3, 0, 0, 0), (22, .aload_n 0, 1, 0, 0, 0), (23, .getfield 160, 3, 11, 14, 0), (26, .iload_n 3, 1, 0, 0, 0), (27, .if_icmp .le 9, 3, 0, 0, 0), (30, .aload_n 0, 1, 0, 0, 0), (31, .iconst 4, 1, 0, 0, 0), (32, .invokevirtual 197, 3, 100, 1, 21), (35, .ireturn, 1, 0, 0, 0), (36, .aload_n 0, 1, 0, 0, 0), (37, .getfield 7, 3, 11, 0, 0), (40, .iload_n 1, 1, 0, 0, 0), (41, .aload_n 0, 1, 0, 0, 0), (42, .getfield 160, 3, 11, 14, 0), (45, .iastore, 1, 0, 0, 0), (46, .aload_n 0, 1, 0, 0, 0), (47, .invokevirtual 191, 3, 96, 0, 21), (50, .iconst 1, 1, 0, 0, 0), (51, .ireturn, 1, 0, 0, 0)]
noncomputable def ij_t103 : List (Nat × ij_E) := [(0, .sipush 2292, 3, 0, 0, 0), (3, .istore_n 1, 1, 0, 0, 0), (4, .aload_n 0, 1, 0, 0, 0), (5, .getfield 163, 3, 11, 11, 0), (8, .iconst 3, 1, 0, 0, 0), (9, .if_icmp .ne 81, 3, 0, 0, 0), (12, .aload_n 0, 1, 0, 0, 0), (13, .getfield 160, 3, 11, 14, 0), (16, .aload_n 0, 1, 0, 0, 0), (17, .getfield 7, 3, 11, 0, 0), (20, .sipush 1841, 3, 0, 0, 0), (23, .iaload, 1, 0, 0, 0), (24, .if_icmp .ge 26, 3, 0, 0, 0), (27, .aload_n 0, 1, 0, 0, 0), (28, .getfield 7, 3, 11, 0, 0), (31, .sipush 1860, 3, 0, 0, 0), (34, .aload_n 0, 1, 0, 0, 0), (35, .getfield 160, 3, 11, 14, 0), (38, .iadd, 1, 0, 0, 0), (39, .iaload, 1, 0, 0, 0), (40, .iconst 1, 1, 0, 0, 0), (41, .if_icmp .ne 9, 3, 0, 0, 0), (44, .aload_n 0, 1, 0, 0, 0), (45, .iconst 5, 1, 0, 0, 0), (46, .invokevirtual 197, 3, 100, 1, 21), (49, .ireturn, 1, 0, 0, 0), (50, .aload_n 0, 1, 0, 0, 0), (51, .iload_n 1, 1, 0, 0, 0), (52, .iconst 0, 1, 0, 0, 0), (53, .aload_n 0, 1, 0, 0, 0), (54, .getfield 7, 3, 11, 0, 0), (57, .sipush 1841, 3, 0, 0, 0), (60, .iaload, 1, 0, 0, 0), (61, .iconst 1, 1, 0, 0, 0), (62, .isub, 1, 0, 0, 0), (63, .invokevirtual 200, 3, 102, 3, 21), (66, .ifCond .ne 5, 3, 0, 0, 0), (69, .iconst 0, 1, 0, 0, 0), (70, .ireturn, 1, 0, 0, 0), (71, .aload_n 0, 1, 0, 0, 0), (72, .getfield 7, 3, 11, 0, 0), (75, .sipush 1860, 3, 0, 0, 0), (78, .aload_n 0, 1, 0, 0, 0), (79, .getfield 7, 3, 11, 0, 0), (82, .iload_n 1, 1, 0, 0, 0), (83, .iaload, 1, 0, 0, 0), (84, .iadd, 1, 0, 0, 0), (85, .iconst 1, 1, 0, 0, 0), (86, .iastore, 1, 0, 0, 0), (87, .goto (-83), 3, 0, 0, 0), (90, .iconst 1, 1, 0, 0, 0), (91, .ireturn, 1, 0, 0, 0)]
noncomputable def ij_t104 : List (Nat × ij_E) := [(0, .aload_n 0, 1, 0, 0, 0), (1, .getfield 163, 3, 11, 11, 0), (4, .iconst 4, 1, 0, 0, 0), (5, .if_icmp .ne 15, 3, 0, 0, 0), (8, .aload_n 0, 1, 0, 0, 0), (9, .getfield 160, 3, 11, 14, 0), (12, .iload_n 1, 1, 0, 0, 0), (13, .if_icmp .ne 7, 3, 0, 0, 0), (16, .iconst 1, 1, 0, 0, 0), (17, .goto 4, 3, 0, 0, 0), (20, .iconst 0, 1, 0, 0, 0), (21, .ireturn, 1, 0, 0, 0)]
noncomputable def ij_t105 : List (Nat × ij_E) := [(0, .aload_n 0, 1, 0, 0, 0), (1, .iload_n 1, 1, 0, 0, 0), (2, .invokevirtual 194, 3, 104, 1, 21), (5, .ifCond .ne 9, 3, 0, 0, 0), (8, .aload_n 0, 1, 0, 0, 0), (9, .iconst 2, 1, 0, 0, 0), (10, .invokevirtual 197, 3, 100, 1, 21), (13, .ireturn, 1, 0, 0, 0), (14, .aload_n 0, 1, 0, 0, 0), (15, .invokevirtual 191, 3, 96, 0, 21), (18, .iconst 1, 1, 0, 0, 0), (19, .ireturn, 1, 0, 0, 0)]
noncomputable def ij_t106 : List (Nat × ij_E) := [(0, .iload_n 0, 1, 0, 0, 0), (1, .iconst 1, 1, 0, 0, 0), (2, .if_icmp .ne 7, 3, 0, 0, 0), (5, .iconst 2, 1, 0, 0, 0), (6, .goto 19, 3, 0, 0, 0), (9, .iload_n 0, 1, 0, 0, 0), (10, .iconst 3, 1, 0, 0, 0), (11, .if_icmp .eq 9, 3, 0, 0, 0), (14, .iload_n 0, 1, 0, 0, 0), (15, .bipush 6, 2, 0, 0, 0), (17, .if_icmp .ne 7, 3, 0, 0, 0), (20, .iconst 1, 1, 0, 0, 0), (21, .goto 4, 3, 0, 0, 0), (24, .iconst 0, 1, 0, 0, 0), (25, .ireturn, 1, 0, 0, 0)]
noncomputable def ij_t107 : List (Nat × ij_E) := [(0, .iload_n 0, 1, 0, 0, 0), (1, .tableswitch 58 0 6 #[43, 46, 58, 49, 52, 58, 55], 43, 0, 0, 0), (44, .bipush 16, 2, 0, 0, 0), (46, .ireturn, 1, 0, 0, 0), (47, .bipush 60, 2, 0, 0, 0), (49, .ireturn, 1, 0, 0, 0), (50, .bipush 24, 2, 0, 0, 0), (52, .ireturn, 1, 0, 0, 0), (53, .bipush 23, 2, 0, 0, 0), (55, .ireturn, 1, 0, 0, 0), (56, .bipush 7, 2, 0, 0, 0), (58, .ireturn, 1, 0, 0, 0), (59, .iload_n 1, 1, 0, 0, 0), (60, .iconst 1, 1, 0, 0, 0), (61, .isub, 1, 0, 0, 0), (62, .ireturn, 1, 0, 0, 0)]
noncomputable def ij_t108 : List (Nat × ij_E) := [(0, .aload_n 0, 1, 0, 0, 0), (1, .ldc 204, 2, 1, 23, 0), (3, .invokevirtual 206, 3, 99, 1, 21), (6, .istore_n 1, 1, 0, 0, 0), (7, .iload_n 1, 1, 0, 0, 0), (8, .ifCond .lt 9, 3, 0, 0, 0), (11, .iload_n 1, 1, 0, 0, 0), (12, .bipush 9, 2, 0, 0, 0), (14, .if_icmp .le 9, 3, 0, 0, 0), (17, .aload_n 0, 1, 0, 0, 0), (18, .iconst 2, 1, 0, 0, 0), (19, .invokevirtual 197, 3, 100, 1, 21), (22, .ireturn, 1, 0, 0, 0), (23, .sipush 932, 3, 0, 0, 0), (26, .istore_n 2, 1, 0, 0, 0), (27, .iload_n 1, 1, 0, 0, 0), (28, .bipush 9, 2, 0, 0, 0), (30, .if_icmp .eq 15, 3, 0, 0, 0), (33, .aload_n 0, 1, 0, 0, 0), (34, .aload_n 0, 1, 0, 0, 0), (35, .getfield 210, 3, 11, 18, 0), (38, .iload_n 1, 1, 0, 0, 0), (39, .invokevirtual 213, 3, 101, 2, 21), (42, .ifCond .ne 17, 3, 0, 0, 0), (45, .iload_n 1, 1, 0, 0, 0), (46, .iconst 1, 1, 0, 0, 0), (47, .if_icmp .ne 18, 3, 0, 0, 0), (50, .aload_n 0, 1, 0, 0, 0), (51, .getfield 210, 3, 11, 18, 0), (54, .iload_n 2, 1, 0, 0, 0), (55, .iand, 1, 0, 0, 0), (56, .ifCond .eq 9, 3, 0, 0, 0), (59, .aload_n 0, 1, 0, 0, 0), (60, .iconst 5, 1, 0, 0, 0), (61, .invokevirtual 197, 3, 100, 1, 21), (64, .ireturn, 1, 0, 0, 0), (65, .aload_n 0, 1, 0, 0, 0), (66, .dup, 1, 0, 0, 0), (67, .getfield 210, 3, 11, 18, 0), (70, .iconst 1, 1, 0, 0, 0), (71, .iload_n 1, 1, 0, 0, 0), (72, .ishl, 1, 0, 0, 0), (73, .ior, 1, 0, 0, 0), (74, .putfield 210, 3, 11, 18, 0), (77, .aload_n 0, 1, 0, 0, 0), (78, .invokevirtual 191, 3, 96, 0, 21), (81, .iload_n 1, 1, 0, 0, 0), (82, .bipush 9, 2, 0, 0, 0), (84, .if_icmp .ne 25, 3, 0, 0, 0), (87, .aload_n 0, 1, 0, 0, 0), (88, .invokevirtual 217, 3, 103, 0, 21), (91, .ifCond .eq 16, 3, 0, 0, 0), (94, .aload_n 0, 1, 0, 0, 0), (95, .bipush 59, 2, 0, 0, 0), (97, .invokevirtual 221, 3, 105, 1, 21), (100, .ifCond .eq 7, 3, 0, 0, 0), (103, .iconst 1, 1, 0, 0, 0), (104, .goto 4, 3, 0, 0, 0), (107, .iconst 0, 1, 0, 0, 0), (108, .ireturn, 1, 0, 0, 0), (109, .aload_n 0, 1, 0, 0, 0), (110, .sipush 1840, 3, 0, 0, 0), (113, .iload_n 1, 1, 0, 0, 0), (114, .iadd, 1, 0, 0, 0), (115, .iload_n 1, 1, 0, 0, 0), (116, .invokestatic 224, 3, 106, 1, 1), (119, .iload_n 1, 1, 0, 0, 0), (120, .aload_n 0, 1, 0, 0, 0), (121, .getfield 7, 3, 11, 0, 0), (124, .sipush 1841, 3, 0, 0, 0), (127, .iaload, 1, 0, 0, 0), (128, .invokestatic 227, 3, 107, 2, 1), (131, .invokevirtual 200, 3, 102, 3, 21), (134, .ifCond .eq 16, 3, 0, 0, 0), (137, .aload_n 0, 1, 0, 0, 0), (138, .bipush 59, 2, 0, 0, 0), (140, .invokevirtual 221, 3, 105, 1, 21), (143, .ifCond .eq 7, 3, 0, 0, 0), (146, .iconst 1, 1, 0, 0, 0), (147, .goto 4, 3, 0, 0, 0), (150, .iconst 0, 1, 0, 0, 0), (151, .ireturn, 1, 0, 0, 0)]
noncomputable def ij_t109 : List (Nat × ij_E) := [(0, .iload_n 0, 1, 0, 0, 0), (1, .iconst 2, 1, 0, 0, 0), (2, .if_icmp .eq 20, 3, 0, 0, 0), (5, .iload_n 0, 1, 0, 0, 0), (6, .iconst 5, 1, 0, 0, 0), (7, .if_icmp .eq 15, 3, 0, 0, 0), (10, .iload_n 0, 1, 0, 0, 0), (11, .bipush 7, 2, 0, 0, 0), (13, .if_icmp .eq 9, 3, 0, 0, 0), (16, .iload_n 0, 1, 0, 0, 0), (17, .bipush 8, 2, 0, 0, 0), (19, .if_icmp .ne 7, 3, 0, 0, 0), (22, .iconst 1, 1, 0, 0, 0), (23, .goto 4, 3, 0, 0, 0), (26, .iconst 0, 1, 0, 0, 0), (27, .ireturn, 1, 0, 0, 0)]
noncomputable def ij_t110 : List (Nat × ij_E) := [(0, .iconst 2, 1, 0, 0, 0), (1, .istore_n 2, 1, 0, 0, 0), (2, .iload_n 2, 1, 0, 0, 0), (3, .bipush 8, 2, 0, 0, 0), (5, .if_icmp .gt 35, 3, 0, 0, 0), (8, .iload_n 2, 1, 0, 0, 0), (9, .invokestatic 230, 3, 109, 1, 1), (12, .ifCond .eq 22, 3, 0, 0, 0), (15, .aload_n 0, 1, 0, 0, 0), (16, .getfield 7, 3, 11, 0, 0), (19, .iload_n 1, 1, 0, 0, 0), (20, .iload_n 2, 1, 0, 0, 0), (21, .iadd, 1, 0, 0, 0), (22, .dup2, 1, 0, 0, 0), (23, .iaload, 1, 0, 0, 0), (24, .aload_n 0, 1, 0, 0, 0), (25, .getfield 7, 3, 11, 0, 0), (28, .iload_n 1, 1, 0, 0, 0), (29, .iconst 1, 1, 0, 0, 0), (30, .iadd, 1, 0, 0, 0), (31, .iaload, 1, 0, 0, 0), (32, .irem, 1, 0, 0, 0), (33, .iastore, 1, 0, 0, 0), (34, .iinc 2 1, 3, 0, 0, 0), (37, .goto (-35), 3, 0, 0, 0), (40, .return_, 1, 0, 0, 0)]
noncomputable def ij_t111 : List (Nat × ij_E) := [(0, .iload_n 0, 1, 0, 0, 0), (1, .iload_n 1, 1, 0, 0, 0), (2, .irem, 1, 0, 0, 0), (3, .istore_n 2, 1, 0, 0, 0), (4, .iload_n 2, 1, 0, 0, 0), (5, .ifCond .ge 9, 3, 0, 0, 0), (8, .iload_n 2, 1, 0, 0, 0), (9, .iload_n 1, 1, 0, 0, 0), (10, .iadd, 1, 0, 0, 0), (11, .goto 4, 3, 0, 0, 0), (14, .iload_n 2, 1, 0, 0, 0), (15, .ireturn, 1, 0, 0, 0)]
noncomputable def ij_t112 : List (Nat × ij_E) := [(0, .aload_n 0, 1, 0, 0, 0), (1, .getfield 7, 3, 11, 0, 0), (4, .iconst 5, 1, 0, 0, 0), (5, .iaload, 1, 0, 0, 0), (6, .iload_n 1, 1, 0, 0, 0), (7, .aload_n 0, 1, 0, 0, 0), (8, .getfield 7, 3, 11, 0, 0), (11, .iconst 4, 1, 0, 0, 0), (12, .iaload, 1, 0, 0, 0), (13, .isub, 1, 0, 0, 0), (14, .iload_n 2, 1, 0, 0, 0), (15, .imul, 1, 0, 0, 0), (16, .iadd, 1, 0, 0, 0), (17, .aload_n 0, 1, 0, 0, 0), (18, .getfield 7, 3, 11, 0, 0), (21, .iconst 1, 1, 0, 0, 0), (22, .iaload, 1, 0, 0, 0), (23, .invokestatic 266, 3, 111, 2, 1), (26, .ireturn, 1, 0, 0, 0)]
noncomputable def ij_t113 : List (Nat × ij_E) := [(0, .aload_n 0, 1, 0, 0, 0), (1, .getfield 7, 3, 11, 0, 0), (4, .iconst 1, 1, 0, 0, 0), (5, .iaload, 1, 0, 0, 0), (6, .istore_n 3, 1, 0, 0, 0), (7, .aload_n 0, 1, 0, 0, 0), (8, .iconst 0, 1, 0, 0, 0), (9, .putfield 245, 3, 11, 26, 0), (12, .aload_n 0, 1, 0, 0, 0), (13, .iconst 0, 1, 0, 0, 0), (14, .putfield 269, 3, 11, 27, 0), (17, .iconst 0, 1, 0, 0, 0), (18, .istore 4, 2, 0, 0, 0), (20, .iload 4, 2, 0, 0, 0), (22, .bipush 60, 2, 0, 0, 0), (24, .if_icmp .ge 17, 3, 0, 0, 0), (27, .aload_n 0, 1, 0, 0, 0), (28, .getfield 50, 3, 11, 24, 0), (31, .iload 4, 2, 0, 0, 0), (33, .iconst (-1), 1, 0, 0, 0), (34, .iastore, 1, 0, 0, 0), (35, .iinc 4 1, 3, 0, 0, 0), (38, .goto (-18), 3, 0, 0, 0), (41, .iconst 0, 1, 0, 0, 0), (42, .istore 4, 2, 0, 0, 0), (44, .iload 4, 2, 0, 0, 0), (46, .iload_n 1, 1, 0, 0, 0), (47, .if_icmp .ge 22, 3, 0, 0, 0), (50, .aload_n 0, 1, 0, 0, 0), (51, .getfield 50, 3, 11, 24, 0), (54, .aload_n 0, 1, 0, 0, 0), (55, .iload 4, 2, 0, 0, 0), (57, .iload_n 2, 1, 0, 0, 0), (58, .invokevirtual 272, 3, 112, 2, 21), (61, .iconst 0, 1, 0, 0, 0), (62, .iastore, 1, 0, 0, 0), (63, .iinc 4 1, 3, 0, 0, 0), (66, .goto (-22), 3, 0, 0, 0), (69, .iconst 0, 1, 0, 0, 0), (70, .istore 4, 2, 0, 0, 0), (72, .iload 4, 2, 0, 0, 0), (74, .iload_n 3, 1, 0, 0, 0), (75, .if_icmp .ge 55, 3, 0, 0, 0), (78, .aload_n 0, 1, 0, 0, 0), (79, .getfield 50, 3, 11, 24, 0), (82, .iload 4, 2, 0, 0, 0), (84, .iaload, 1, 0, 0, 0), (85, .iconst (-1), 1, 0, 0, 0), (86, .if_icmp .ne 6, 3, 0, 0, 0), (89, .goto 35, 3, 0, 0, 0), (92, .aload_n 0, 1, 0, 0, 0), (93, .getfield 50, 3, 11, 24, 0), (96, .iload 4, 2, 0, 0, 0), (98, .aload_n 0, 1, 0, 0, 0), (99, .getfield 245, 3, 11, 26, 0), (102, .iastore, 1, 0, 0, 0), (103, .aload_n 0, 1, 0, 0, 0), (104, .getfield 44, 3, 11, 22, 0), (107, .aload_n 0, 1, 0, 0, 0), (108, .getfield 245, 3, 11, 26, 0), (111, .iload 4, 2, 0, 0, 0), (113, .iastore, 1, 0, 0, 0), (114, .aload_n 0, 1, 0, 0, 0), (115, .dup, 1, 0, 0, 0), (116, .getfield 245, 3, 11, 26, 0), (119, .iconst 1, 1, 0, 0, 0), (120, .iadd, 1, 0, 0, 0), (121, .putfield 245, 3, 11, 26, 0), (124, .iinc 4 1, 3, 0, 0, 0), (127, .goto (-55), 3, 0, 0, 0), (130, .iconst 0, 1, 0, 0, 0), (131, .istore 4, 2, 0, 0, 0), (133, .iload 4, 2, 0, 0, 0), (135, .aload_n 0, 1, 0, 0, 0), (136, .getfield 245, 3, 11, 26, 0), (139, .if_icmp .ge 55, 3, 0, 0, 0), (142, .aload_n 0, 1, 0, 0, 0), (143, .getfield 44, 3, 11, 22, 0), (146, .iload 4, 2, 0, 0, 0), (148, .iconst 1, 1, 0, 0, 0), (149, .iadd, 1, 0, 0, 0), (150, .aload_n 0, 1, 0, 0, 0), (151, .getfield 245, 3, 11, 26, 0), (154, .irem, 1, 0, 0, 0), (155, .iaload, 1, 0, 0, 0), (156, .aload_n 0, 1, 0, 0, 0), (157, .getfield 44, 3, 11, 22, 0), (160, .iload 4, 2, 0, 0, 0), (162, .iaload, 1, 0, 0, 0), (163, .isub, 1, 0, 0, 0), (164, .iload_n 3, 1, 0, 0, 0), (165, .invokestatic 266, 3, 111, 2, 1), (168, .istore 5, 2, 0, 0, 0), (170, .aload_n 0, 1, 0, 0, 0), (171, .getfield 47, 3, 11, 23, 0), (174, .iload 4, 2, 0, 0, 0), (176, .iload 5, 2, 0, 0, 0), (178, .ifCond .ne 7, 3, 0, 0, 0), (181, .iload_n 3, 1, 0, 0, 0), (182, .goto 5, 3, 0, 0, 0), (185, .iload 5, 2, 0, 0, 0), (187, .iastore, 1, 0, 0, 0), (188, .iinc 4 1, 3, 0, 0, 0), (191, .goto (-58), 3, 0, 0, 0), (194, .iconst 1, 1, 0, 0, 0), (195, .istore 4, 2, 0, 0, 0), (197, .iload 4, 2, 0, 0, 0), (199, .iload_n 3, 1, 0, 0, 0), (200, .if_icmp .gt 83, 3, 0, 0, 0), (203, .iconst 0, 1, 0, 0, 0), (204, .istore 5, 2, 0, 0, 0), (206, .iconst 0, 1, 0, 0, 0), (207, .istore 6, 2, 0, 0, 0), (209, .iload 6, 2, 0, 0, 0), (211, .aload_n 0, 1, 0, 0, 0), (212, .getfield 245, 3, 11, 26, 0), (215, .if_icmp .ge 33, 3, 0, 0, 0), (218, .iload 5, 2, 0, 0, 0), (220, .ifCond .ne 15, 3, 0, 0, 0), (223, .aload_n 0, 1, 0, 0, 0), (224, .getfield 47, 3, 11, 23, 0), (227, .iload 6, 2, 0, 0, 0), (229, .iaload, 1, 0, 0, 0), (230, .iload 4, 2, 0, 0, 0), (232, .if_icmp .ne 7, 3, 0, 0, 0), (235, .iconst 1, 1, 0, 0, 0), (236, .goto 4, 3, 0, 0, 0), (239, .iconst 0, 1, 0, 0, 0), (240, .istore 5, 2, 0, 0, 0), (242, .iinc 6 1, 3, 0, 0, 0), (245, .goto (-36), 3, 0, 0, 0), (248, .iload 5, 2, 0, 0, 0), (250, .ifCond .ne 6, 3, 0, 0, 0), (253, .goto 24, 3, 0, 0, 0), (256, .aload_n 0, 1, 0, 0, 0), (257, .getfield 53, 3, 11, 25, 0), (260, .aload_n 0, 1, 0, 0, 0), (261, .getfield 269, 3, 11, 27, 0), (264, .iload 4, 2, 0, 0, 0), (266, .iastore, 1, 0, 0, 0), (267, .aload_n 0, 1, 0, 0, 0), (268, .dup, 1, 0, 0, 0), (269, .getfield 269, 3, 11, 27, 0), (272, .iconst 1, 1, 0, 0, 0), (273, .iadd, 1, 0, 0, 0), (274, .putfield 269, 3, 11, 27, 0), (277, .iinc 4 1, 3, 0, 0, 0), (280, .goto (-83), 3, 0, 0, 0), (283, .return_, 1, 0, 0, 0)]
noncomputable def ij_t114 : List (Nat × ij_E) := [(0, .aload_n 0, 1, 0, 0, 0), (1, .aload_n 0, 1, 0, 0, 0), (2, .getfield 7, 3, 11, 0, 0), (5, .iconst 3, 1, 0, 0, 0), (6, .iaload, 1, 0, 0, 0), (7, .aload_n 0, 1, 0, 0, 0), (8, .getfield 7, 3, 11, 0, 0), (11, .iconst 2, 1, 0, 0, 0), (12, .iaload, 1, 0, 0, 0), (13, .invokevirtual 275, 3, 113, 2, 21), (16, .return_, 1, 0, 0, 0)]
noncomputable def ij_t115 : List (Nat × ij_E) := [(0, .aload_n 0, 1, 0, 0, 0), (1, .iconst 0, 1, 0, 0, 0), (2, .putfield 112, 3, 11, 1, 0), (5, .iload_n 1, 1, 0, 0, 0), (6, .ireturn, 1, 0, 0, 0)]
noncomputable def ij_t116 : List (Nat × ij_E) := [(0, .aload_n 0, 1, 0, 0, 0), (1, .aload_n 0, 1, 0, 0, 0), (2, .getfield 188, 3, 11, 17, 0), (5, .putfield 34, 3, 11, 15, 0), (8, .aload_n 0, 1, 0, 0, 0), (9, .getfield 188, 3, 11, 17, 0), (12, .ifCond .le 12, 3, 0, 0, 0), (15, .aload_n 0, 1, 0, 0, 0), (16, .bipush 9, 2, 0, 0, 0), (18, .invokevirtual 118, 3, 98, 1, 21), (21, .goto 8, 3, 0, 0, 0), (24, .aload_n 0, 1, 0, 0, 0), (25, .iload_n 1, 1, 0, 0, 0), (26, .invokevirtual 122, 3, 115, 1, 21), (29, .ireturn, 1, 0, 0, 0)]
noncomputable def ij_t117 : List (Nat × ij_E) := [(0, .aload_n 0, 1, 0, 0, 0), (1, .iload_n 1, 1, 0, 0, 0), (2, .sipush 900, 3, 0, 0, 0), (5, .invokevirtual 233, 3, 97, 2, 21), (8, .ifCond .ne 9, 3, 0, 0, 0), (11, .aload_n 0, 1, 0, 0, 0), (12, .iconst 1, 1, 0, 0, 0), (13, .invokevirtual 118, 3, 98, 1, 21), (16, .ireturn, 1, 0, 0, 0), (17, .aload_n 0, 1, 0, 0, 0), (18, .sipush 1840, 3, 0, 0, 0), (21, .invokevirtual 108, 3, 19, 1, 21), (24, .aload_n 0, 1, 0, 0, 0), (25, .iconst 0, 1, 0, 0, 0), (26, .putfield 210, 3, 11, 18, 0), (29, .iconst 1, 1, 0, 0, 0), (30, .istore_n 2, 1, 0, 0, 0), (31, .iload_n 2, 1, 0, 0, 0), (32, .ifCond .eq 18, 3, 0, 0, 0), (35, .aload_n 0, 1, 0, 0, 0), (36, .getfield 163, 3, 11, 11, 0), (39, .ifCond .eq 11, 3, 0, 0, 0), (42, .aload_n 0, 1, 0, 0, 0), (43, .invokevirtual 236, 3, 108, 0, 21), (46, .istore_n 2, 1, 0, 0, 0), (47, .goto (-16), 3, 0, 0, 0), (50, .aload_n 0, 1, 0, 0, 0), (51, .sipush 1840, 3, 0, 0, 0), (54, .invokevirtual 239, 3, 110, 1, 21), (57, .aload_n 0, 1, 0, 0, 0), (58, .getfield 188, 3, 11, 17, 0), (61, .ifCond .ne 34, 3, 0, 0, 0), (64, .iconst 0, 1, 0, 0, 0), (65, .istore_n 3, 1, 0, 0, 0), (66, .iload_n 3, 1, 0, 0, 0), (67, .sipush 460, 3, 0, 0, 0), (70, .if_icmp .ge 25, 3, 0, 0, 0), (73, .aload_n 0, 1, 0, 0, 0), (74, .getfield 7, 3, 11, 0, 0), (77, .iload_n 3, 1, 0, 0, 0), (78, .aload_n 0, 1, 0, 0, 0), (79, .getfield 7, 3, 11, 0, 0), (82, .sipush 1840, 3, 0, 0, 0), (85, .iload_n 3, 1, 0, 0, 0), (86, .iadd, 1, 0, 0, 0), (87, .iaload, 1, 0, 0, 0), (88, .iastore, 1, 0, 0, 0), (89, .iinc 3 1, 3, 0, 0, 0), (92, .goto (-26), 3, 0, 0, 0), (95, .aload_n 0, 1, 0, 0, 0), (96, .invokevirtual 242, 3, 114, 0, 21), (99, .aload_n 0, 1, 0, 0, 0), (100, .aload_n 0, 1, 0, 0, 0), (101, .getfield 245, 3, 11, 26, 0), (104, .invokevirtual 248, 3, 116, 1, 21), (107, .ireturn, 1, 0, 0, 0)]
noncomputable def ij_t118 : List (Nat × ij_E) := [(0, .iload_n 1, 1, 0, 0, 0), (1, .ifCond .lt 21, 3, 0, 0, 0), (4, .iload_n 1, 1, 0, 0, 0), (5, .aload_n 0, 1, 0, 0, 0), (6, .getfield 24, 3, 6, 4, 0), (9, .if_icmp .ge 13, 3, 0, 0, 0), (12, .iload_n 1, 1, 0, 0, 0), (13, .bipush 30, 2, 0, 0, 0), (15, .if_icmp .ge 7, 3, 0, 0, 0), (18, .iconst 1, 1, 0, 0, 0), (19, .goto 4, 3, 0, 0, 0), (22, .iconst 0, 1, 0, 0, 0), (23, .ireturn, 1, 0, 0, 0)]
noncomputable def ij_t119 : List (Nat × ij_E) := [(0, .aload_n 0, 1, 0, 0, 0), (1, .getfield 22, 3, 7, 3, 0), (4, .iconst 1, 1, 0, 0, 0), (5, .if_icmp .lt 11, 3, 0, 0, 0), (8, .aload_n 0, 1, 0, 0, 0), (9, .getfield 22, 3, 7, 3, 0), (12, .iconst 3, 1, 0, 0, 0), (13, .if_icmp .le 12, 3, 0, 0, 0), (16, .aload_n 0, 1, 0, 0, 0), (17, .getfield 26, 3, 7, 0, 0), (20, .iconst 2, 1, 0, 0, 0), (21, .invokevirtual 50, 3, 63, 1, 12), (24, .ireturn, 1, 0, 0, 0), (25, .aload_n 0, 1, 0, 0, 0), (26, .dup, 1, 0, 0, 0), (27, .getfield 22, 3, 7, 3, 0), (30, .iconst 1, 1, 0, 0, 0), (31, .isub, 1, 0, 0, 0), (32, .putfield 22, 3, 7, 3, 0), (35, .aload_n 0, 1, 0, 0, 0), (36, .getfield 18, 3, 7, 2, 0), (39, .aload_n 0, 1, 0, 0, 0), (40, .getfield 22, 3, 7, 3, 0), (43, .iaload, 1, 0, 0, 0), (44, .istore_n 1, 1, 0, 0, 0), (45, .aload_n 0, 1, 0, 0, 0), (46, .getfield 12, 3, 7, 1, 0), (49, .iload_n 1, 1, 0, 0, 0), (50, .invokevirtual 70, 3, 118, 1, 16), (53, .ifCond .eq 19, 3, 0, 0, 0), (56, .aload_n 0, 1, 0, 0, 0), (57, .getfield 12, 3, 7, 1, 0), (60, .getfield 73, 3, 6, 3, 0), (63, .iload_n 1, 1, 0, 0, 0), (64, .aload_n 0, 1, 0, 0, 0), (65, .getfield 12, 3, 7, 1, 0), (68, .getfield 36, 3, 6, 4, 0), (71, .iastore, 1, 0, 0, 0), (72, .aload_n 0, 1, 0, 0, 0), (73, .getfield 26, 3, 7, 0, 0), (76, .invokevirtual 76, 3, 84, 0, 12), (79, .ireturn, 1, 0, 0, 0)]
noncomputable def ij_t120 : List (Nat × ij_E) := [(0, .aload_n 0, 1, 0, 0, 0), (1, .getfield 26, 3, 7, 0, 0), (4, .ldc 118, 2, 1, 11, 0), (6, .invokevirtual 56, 3, 72, 1, 12), (9, .ifCond .eq 5, 3, 0, 0, 0), (12, .iconst 0, 1, 0, 0, 0), (13, .ireturn, 1, 0, 0, 0), (14, .aload_n 0, 1, 0, 0, 0), (15, .getfield 26, 3, 7, 0, 0), (18, .ldc 120, 2, 1, 12, 0), (20, .invokevirtual 56, 3, 72, 1, 12), (23, .ifCond .eq 5, 3, 0, 0, 0), (26, .iconst 1, 1, 0, 0, 0), (27, .ireturn, 1, 0, 0, 0), (28, .aload_n 0, 1, 0, 0, 0), (29, .getfield 26, 3, 7, 0, 0), (32, .ldc 122, 2, 1, 13, 0), (34, .invokevirtual 56, 3, 72, 1, 12), (37, .ifCond .eq 5, 3, 0, 0, 0), (40, .iconst 2, 1, 0, 0, 0), (41, .ireturn, 1, 0, 0, 0), (42, .aload_n 0, 1, 0, 0, 0), (43, .getfield 26, 3, 7, 0, 0), (46, .ldc 124, 2, 1, 14, 0), (48, .invokevirtual 56, 3, 72, 1, 12), (51, .ifCond .eq 5, 3, 0, 0, 0), (54, .iconst 3, 1, 0, 0, 0), (55, .ireturn, 1, 0, 0, 0), (56, .aload_n 0, 1, 0, 0, 0), (57, .getfield 26, 3, 7, 0, 0), (60, .ldc 126, 2, 1, 15, 0), (62, .invokevirtual 56, 3, 72, 1, 12), (65, .ifCond .eq 5, 3, 0, 0, 0), (68, .iconst 4, 1, 0, 0, 0), (69, .ireturn, 1, 0, 0, 0), (70, .aload_n 0, 1, 0, 0, 0), (71, .getfield 26, 3, 7, 0, 0), (74, .ldc 128, 2, 1, 16, 0), (76, .invokevirtual 56, 3, 72, 1, 12), (79, .ifCond .eq 5, 3, 0, 0, 0), (82, .iconst 5, 1, 0, 0, 0), (83, .ireturn, 1, 0, 0, 0), (84, .aload_n 0, 1, 0, 0, 0), (85, .getfield 26, 3, 7, 0, 0), (88, .ldc 130, 2, 1, 17, 0), (90, .invokevirtual 56, 3, 72, 1, 12), (93, .ifCond .eq 6, 3, 0, 0, 0), (96, .bipush 6, 2, 0, 0, 0), (98, .ireturn, 1, 0, 0, 0), (99, .aload_n 0, 1, 0, 0, 0), (100, .getfield 26, 3, 7, 0, 0), (103, .ldc 132, 2, 1, 18, 0), (105, .invokevirtual 56, 3, 72, 1, 12), (108, .ifCond .eq 6, 3, 0, 0, 0), (111, .bipush 7, 2, 0, 0, 0), (113, .ireturn, 1, 0, 0, 0), (114, .aload_n 0, 1, 0, 0, 0), (115, .getfield 26, 3, 7, 0, 0), (118, .ldc 134, 2, 1, 19, 0), (120, .invokevirtual 56, 3, 72, 1, 12), (123, .ifCond .eq 8, 3, 0, 0, 0), (126, .bipush 8, 2, 0, 0, 0), (128, .goto 4, 3, 0, 0, 0), (131, .iconst (-1), 1, 0, 0, 0), (132, .ireturn, 1, 0, 0, 0)]
noncomputable def ij_t121 : List (Nat × ij_E) := [(0, .aload_n 0, 1, 0, 0, 0), (1, .getfield 26, 3, 7, 0, 0), (4, .bipush 60, 2, 0, 0, 0), (6, .invokevirtual 114, 3, 76, 1, 12), (9, .ifCond .eq 5, 3, 0, 0, 0), (12, .iconst 2, 1, 0, 0, 0), (13, .ireturn, 1, 0, 0, 0), (14, .aload_n 0, 1, 0, 0, 0), (15, .getfield 26, 3, 7, 0, 0), (18, .bipush 62, 2, 0, 0, 0), (20, .invokevirtual 114, 3, 76, 1, 12), (23, .ifCond .eq 5, 3, 0, 0, 0), (26, .iconst 3, 1, 0, 0, 0), (27, .ireturn, 1, 0, 0, 0), (28, .aload_n 0, 1, 0, 0, 0), (29, .getfield 26, 3, 7, 0, 0), (32, .bipush 61, 2, 0, 0, 0), (34, .invokevirtual 114, 3, 76, 1, 12), (37, .ifCond .eq 7, 3, 0, 0, 0), (40, .iconst 4, 1, 0, 0, 0), (41, .goto 4, 3, 0, 0, 0), (44, .iconst (-1), 1, 0, 0, 0), (45, .ireturn, 1, 0, 0, 0)]
noncomputable def ij_t122 : List (Nat × ij_E) := [(0, .aload_n 0, 1, 0, 0, 0), (1, .getfield 26, 3, 7, 0, 0), (4, .ldc 110, 2, 1, 21, 0), (6, .invokevirtual 56, 3, 72, 1, 12), (9, .ifCond .eq 5, 3, 0, 0, 0), (12, .iconst 0, 1, 0, 0, 0), (13, .ireturn, 1, 0, 0, 0), (14, .aload_n 0, 1, 0, 0, 0), (15, .getfield 26, 3, 7, 0, 0), (18, .ldc 112, 2, 1, 22, 0), (20, .invokevirtual 56, 3, 72, 1, 12), (23, .ifCond .eq 7, 3, 0, 0, 0), (26, .iconst 1, 1, 0, 0, 0), (27, .goto 4, 3, 0, 0, 0), (30, .iconst (-1), 1, 0, 0, 0), (31, .ireturn, 1, 0, 0, 0)]
noncomputable def ij_t123 : List (Nat × ij_E) := [(0, .aload_n 0, 1, 0, 0, 0), (1, .getfield 26, 3, 7, 0, 0), (4, .invokevirtual 43, 3, 64, 0, 12), (7, .ifCond .ne 5, 3, 0, 0, 0), (10, .iconst 0, 1, 0, 0, 0), (11, .ireturn, 1, 0, 0, 0), (12, .aload_n 0, 1, 0, 0, 0), (13, .getfield 26, 3, 7, 0, 0), (16, .ldc 102, 2, 1, 20, 0), (18, .invokevirtual 56, 3, 72, 1, 12), (21, .istore_n 2, 1, 0, 0, 0), (22, .iload_n 2, 1, 0, 0, 0), (23, .ifCond .eq 15, 3, 0, 0, 0), (26, .aload_n 0, 1, 0, 0, 0), (27, .getfield 26, 3, 7, 0, 0), (30, .invokevirtual 43, 3, 64, 0, 12), (33, .ifCond .ne 5, 3, 0, 0, 0), (36, .iconst 0, 1, 0, 0, 0), (37, .ireturn, 1, 0, 0, 0), (38, .aload_n 0, 1, 0, 0, 0), (39, .getfield 12, 3, 7, 1, 0), (42, .getfield 82, 3, 6, 1, 0), (45, .iload_n 1, 1, 0, 0, 0), (46, .iload_n 2, 1, 0, 0, 0), (47, .ifCond .eq 10, 3, 0, 0, 0), (50, .aload_n 0, 1, 0, 0, 0), (51, .invokevirtual 104, 3, 121, 0, 17), (54, .goto 7, 3, 0, 0, 0), (57, .aload_n 0, 1, 0, 0, 0), (58, .invokevirtual 107, 3, 122, 0, 17), (61, .iastore, 1, 0, 0, 0), (62, .aload_n 0, 1, 0, 0, 0), (63, .getfield 12, 3, 7, 1, 0), (66, .getfield 82, 3, 6, 1, 0), (69, .iload_n 1, 1, 0, 0, 0), (70, .iaload, 1, 0, 0, 0), (71, .iconst (-1), 1, 0, 0, 0), (72, .if_icmp .ne 14, 3, 0, 0, 0), (75, .aload_n 0, 1, 0, 0, 0), (76, .getfield 26, 3, 7, 0, 0), (79, .iconst 2, 1, 0, 0, 0), (80, .invokevirtual 50, 3, 63, 1, 12), (83, .ifCond .eq 7, 3, 0, 0, 0), (86, .iconst 1, 1, 0, 0, 0), (87, .goto 4, 3, 0, 0, 0), (90, .iconst 0, 1, 0, 0, 0), (91, .ireturn, 1, 0, 0, 0)]
noncomputable def ij_t124 : List (Nat × ij_E) := [(0, .iload_n 0, 1, 0, 0, 0), (1, .bipush 6, 2, 0, 0, 0), (3, .if_icmp .ne 6, 3, 0, 0, 0), (6, .bipush 99, 2, 0, 0, 0), (8, .ireturn, 1, 0, 0, 0), (9, .iload_n 1, 1, 0, 0, 0), (10, .iconst 2, 1, 0, 0, 0), (11, .if_icmp .lt 8, 3, 0, 0, 0), (14, .bipush 60, 2, 0, 0, 0), (16, .goto 5, 3, 0, 0, 0), (19, .bipush 59, 2, 0, 0, 0), (21, .ireturn, 1, 0, 0, 0)]
noncomputable def ij_t125 : List (Nat × ij_E) := [(0, .iload_n 1, 1, 0, 0, 0), (1, .iconst (-1), 1, 0, 0, 0), (2, .if_icmp .ne 12, 3, 0, 0, 0), (5, .aload_n 0, 1, 0, 0, 0), (6, .getfield 26, 3, 7, 0, 0), (9, .iconst 2, 1, 0, 0, 0), (10, .invokevirtual 50, 3, 63, 1, 12), (13, .ireturn, 1, 0, 0, 0), (14, .aload_n 0, 1, 0, 0, 0), (15, .getfield 12, 3, 7, 1, 0), (18, .getfield 36, 3, 6, 4, 0), (21, .istore_n 2, 1, 0, 0, 0), (22, .iload_n 2, 1, 0, 0, 0), (23, .ifCond .lt 9, 3, 0, 0, 0), (26, .iload_n 2, 1, 0, 0, 0), (27, .bipush 30, 2, 0, 0, 0), (29, .if_icmp .lt 13, 3, 0, 0, 0), (32, .aload_n 0, 1, 0, 0, 0), (33, .getfield 26, 3, 7, 0, 0), (36, .bipush 6, 2, 0, 0, 0), (38, .invokevirtual 50, 3, 63, 1, 12), (41, .ireturn, 1, 0, 0, 0), (42, .iload_n 1, 1, 0, 0, 0), (43, .iconst 4, 1, 0, 0, 0), (44, .if_icmp .eq 14, 3, 0, 0, 0), (47, .iload_n 1, 1, 0, 0, 0), (48, .iconst 5, 1, 0, 0, 0), (49, .if_icmp .eq 9, 3, 0, 0, 0), (52, .iload_n 1, 1, 0, 0, 0), (53, .bipush 6, 2, 0, 0, 0), (55, .if_icmp .ne 7, 3, 0, 0, 0), (58, .iconst 1, 1, 0, 0, 0), (59, .goto 4, 3, 0, 0, 0), (62, .iconst 0, 1, 0, 0, 0), (63, .istore_n 3, 1, 0, 0, 0), (64, .iload_n 3, 1, 0, 0, 0), (65, .ifCond .eq 28, 3, 0, 0, 0), (68, .aload_n 0, 1, 0, 0, 0), (69, .getfield 22, 3, 7, 3, 0), (72, .ifCond .lt 11, 3, 0, 0, 0), (75, .aload_n 0, 1, 0, 0, 0), (76, .getfield 22, 3, 7, 3, 0), (79, .iconst 3, 1, 0, 0, 0), (80, .if_icmp .lt 13, 3, 0, 0, 0), (83, .aload_n 0, 1, 0, 0, 0), (84, .getfield 26, 3, 7, 0, 0), (87, .bipush 7, 2, 0, 0, 0), (89, .invokevirtual 50, 3, 63, 1, 12), (92, .ireturn, 1, 0, 0, 0), (93, .aload_n 0, 1, 0, 0, 0), (94, .getfield 12, 3, 7, 1, 0), (97, .getfield 79, 3, 6, 0, 0), (100, .iload_n 2, 1, 0, 0, 0), (101, .iload_n 1, 1, 0, 0, 0), (102, .iastore, 1, 0, 0, 0), (103, .aload_n 0, 1, 0, 0, 0), (104, .getfield 12, 3, 7, 1, 0), (107, .getfield 82, 3, 6, 1, 0), (110, .iload_n 2, 1, 0, 0, 0), (111, .iconst (-1), 1, 0, 0, 0), (112, .iastore, 1, 0, 0, 0), (113, .aload_n 0, 1, 0, 0, 0), (114, .getfield 12, 3, 7, 1, 0), (117, .getfield 73, 3, 6, 3, 0), (120, .iload_n 2, 1, 0, 0, 0), (121, .iload_n 2, 1, 0, 0, 0), (122, .iconst 1, 1, 0, 0, 0), (123, .iadd, 1, 0, 0, 0), (124, .iastore, 1, 0, 0, 0), (125, .aload_n 0, 1, 0, 0, 0), (126, .getfield 12, 3, 7, 1, 0), (129, .dup, 1, 0, 0, 0), (130, .getfield 36, 3, 6, 4, 0), (133, .iconst 1, 1, 0, 0, 0), (134, .iadd, 1, 0, 0, 0), (135, .putfield 36, 3, 6, 4, 0), (138, .iload_n 3, 1, 0, 0, 0), (139, .ifCond .eq 23, 3, 0, 0, 0), (142, .aload_n 0, 1, 0, 0, 0), (143, .getfield 18, 3, 7, 2, 0), (146, .aload_n 0, 1, 0, 0, 0), (147, .getfield 22, 3, 7, 3, 0), (150, .iload_n 2, 1, 0, 0, 0), (151, .iastore, 1, 0, 0, 0), (152, .aload_n 0, 1, 0, 0, 0), (153, .dup, 1, 0, 0, 0), (154, .getfield 22, 3, 7, 3, 0), (157, .iconst 1, 1, 0, 0, 0), (158, .iadd, 1, 0, 0, 0), (159, .putfield 22, 3, 7, 3, 0), (162, .iload_n 1, 1, 0, 0, 0), (163, .iconst 5, 1, 0, 0, 0), (164, .if_icmp .ne 13, 3, 0, 0, 0), (167, .aload_n 0, 1, 0, 0, 0), (168, .iload_n 2, 1, 0, 0, 0), (169, .invokevirtual 85, 3, 123, 1, 17), (172, .ifCond .ne 5, 3, 0, 0, 0), (175, .iconst 0, 1, 0, 0, 0), (176, .ireturn, 1, 0, 0, 0), (177, .iload_n 1, 1, 0, 0, 0), (178, .iconst 3, 1, 0, 0, 0), (179, .if_icmp .eq 15, 3, 0, 0, 0), (182, .iload_n 1, 1, 0, 0, 0), (183, .bipush 7, 2, 0, 0, 0), (185, .if_icmp .eq 9, 3, 0, 0, 0), (188, .iload_n 1, 1, 0, 0, 0), (189, .bipush 8, 2, 0, 0, 0), (191, .if_icmp .ne 7, 3, 0, 0, 0), (194, .iconst 1, 1, 0, 0, 0), (195, .goto 4, 3, 0, 0, 0), (198, .iconst 0, 1, 0, 0, 0), (199, .istore 4, 2, 0, 0, 0), (201, .iload 4, 2, 0, 0, 0), (203, .ifCond .ne 39, 3, 0, 0, 0), (206, .aload_n 0, 1, 0, 0, 0), (207, .getfield 26, 3, 7, 0, 0), (210, .iload_n 1, 1, 0, 0, 0), (211, .bipush 6, 2, 0, 0, 0), (213, .if_icmp .ne 7, 3, 0, 0, 0), (216, .iconst 1, 1, 0, 0, 0), (217, .goto 4, 3, 0, 0, 0), (220, .iconst 0, 1, 0, 0, 0), (221, .iload_n 1, 1, 0, 0, 0), (222, .aload_n 0, 1, 0, 0, 0), (223, .getfield 12, 3, 7, 1, 0), (226, .getfield 82, 3, 6, 1, 0), (229, .iload_n 2, 1, 0, 0, 0), (230, .iaload, 1, 0, 0, 0), (231, .invokestatic 88, 3, 124, 2, 1), (234, .invokevirtual 92, 3, 82, 2, 12), (237, .ifCond .ne 5, 3, 0, 0, 0), (240, .iconst 0, 1, 0, 0, 0), (241, .ireturn, 1, 0, 0, 0), (242, .aload_n 0, 1, 0, 0, 0), (243, .getfield 12, 3, 7, 1, 0), (246, .getfield 96, 3, 6, 2, 0), (249, .iload_n 2, 1, 0, 0, 0), (250, .iload 4, 2, 0, 0, 0), (252, .ifCond .eq 7, 3, 0, 0, 0), (255, .iconst 0, 1, 0, 0, 0), (256, .goto 10, 3, 0, 0, 0), (259, .aload_n 0, 1, 0, 0, 0), (260, .getfield 26, 3, 7, 0, 0), (263, .getfield 99, 3, 2, 6, 0), (266, .iastore, 1, 0, 0, 0), (267, .aload_n 0, 1, 0, 0, 0), (268, .getfield 26, 3, 7, 0, 0), (271, .invokevirtual 76, 3, 84, 0, 12), (274, .ireturn, 1, 0, 0, 0)]
noncomputable def ij_t126 : List (Nat × ij_E) := [(0, .aload_n 0, 1, 0, 0, 0), (1, .getfield 26, 3, 7, 0, 0), (4, .iload_n 1, 1, 0, 0, 0), (5, .invokevirtual 30, 3, 55, 1, 12), (8, .aload_n 0, 1, 0, 0, 0), (9, .getfield 12, 3, 7, 1, 0), (12, .iconst 0, 1, 0, 0, 0), (13, .putfield 36, 3, 6, 4, 0), (16, .aload_n 0, 1, 0, 0, 0), (17, .getfield 12, 3, 7, 1, 0), (20, .iconst 1, 1, 0, 0, 0), (21, .putfield 39, 3, 6, 5, 0), (24, .aload_n 0, 1, 0, 0, 0), (25, .iconst 0, 1, 0, 0, 0), (26, .putfield 22, 3, 7, 3, 0), (29, .iconst 0, 1, 0, 0, 0), (30, .istore_n 2, 1, 0, 0, 0), (31, .iload_n 2, 1, 0, 0, 0), (32, .sipush 300, 3, 0, 0, 0), (35, .if_icmp .gt 89, 3, 0, 0, 0), (38, .aload_n 0, 1, 0, 0, 0), (39, .getfield 26, 3, 7, 0, 0), (42, .invokevirtual 43, 3, 64, 0, 12), (45, .ifCond .ne 5, 3, 0, 0, 0), (48, .iconst 0, 1, 0, 0, 0), (49, .ireturn, 1, 0, 0, 0), (50, .aload_n 0, 1, 0, 0, 0), (51, .getfield 26, 3, 7, 0, 0), (54, .getfield 47, 3, 2, 4, 0), (57, .ifCond .ne 27, 3, 0, 0, 0), (60, .aload_n 0, 1, 0, 0, 0), (61, .getfield 22, 3, 7, 3, 0), (64, .ifCond .eq 14, 3, 0, 0, 0), (67, .aload_n 0, 1, 0, 0, 0), (68, .getfield 26, 3, 7, 0, 0), (71, .iconst 2, 1, 0, 0, 0), (72, .invokevirtual 50, 3, 63, 1, 12), (75, .ifCond .eq 7, 3, 0, 0, 0), (78, .iconst 1, 1, 0, 0, 0), (79, .goto 4, 3, 0, 0, 0), (82, .iconst 0, 1, 0, 0, 0), (83, .ireturn, 1, 0, 0, 0), (84, .aload_n 0, 1, 0, 0, 0), (85, .getfield 26, 3, 7, 0, 0), (88, .ldc 54, 2, 1, 10, 0), (90, .invokevirtual 56, 3, 72, 1, 12), (93, .ifCond .eq 10, 3, 0, 0, 0), (96, .aload_n 0, 1, 0, 0, 0), (97, .invokevirtual 60, 3, 119, 0, 17), (100, .goto 11, 3, 0, 0, 0), (103, .aload_n 0, 1, 0, 0, 0), (104, .aload_n 0, 1, 0, 0, 0), (105, .invokevirtual 63, 3, 120, 0, 17), (108, .invokevirtual 67, 3, 125, 1, 17), (111, .istore_n 3, 1, 0, 0, 0), (112, .iload_n 3, 1, 0, 0, 0), (113, .ifCond .ne 5, 3, 0, 0, 0), (116, .iconst 0, 1, 0, 0, 0), (117, .ireturn, 1, 0, 0, 0), (118, .iinc 2 1, 3, 0, 0, 0), (121, .goto (-90), 3, 0, 0, 0), (124, .aload_n 0, 1, 0, 0, 0), (125, .getfield 26, 3, 7, 0, 0), (128, .iconst 2, 1, 0, 0, 0), (129, .invokevirtual 50, 3, 63, 1, 12), (132, .ireturn, 1, 0, 0, 0)]
noncomputable def ij_t127 : List (Nat × ij_E) := [(0, .aload_n 1, 1, 0, 0, 0), (1, .getfield 9, 3, 6, 0, 0), (4, .iconst 0, 1, 0, 0, 0), (5, .aload_n 0, 1, 0, 0, 0), (6, .getfield 9, 3, 6, 0, 0), (9, .iconst 0, 1, 0, 0, 0), (10, .bipush 30, 2, 0, 0, 0), (12, .invokestatic 32, 3, 999998, 0, 6), (15, .aload_n 1, 1, 0, 0, 0), (16, .getfield 15, 3, 6, 1, 0), (19, .iconst 0, 1, 0, 0, 0), (20, .aload_n 0, 1, 0, 0, 0), (21, .getfield 15, 3, 6, 1, 0), (24, .iconst 0, 1, 0, 0, 0), (25, .bipush 30, 2, 0, 0, 0), (27, .invokestatic 32, 3, 999998, 0, 6), (30, .aload_n 1, 1, 0, 0, 0), (31, .getfield 18, 3, 6, 2, 0), (34, .iconst 0, 1, 0, 0, 0), (35, .aload_n 0, 1, 0, 0, 0), (36, .getfield 18, 3, 6, 2, 0), (39, .iconst 0, 1, 0, 0, 0), (40, .bipush 30, 2, 0, 0, 0), (42, .invokestatic 32, 3, 999998, 0, 6), (45, .aload_n 1, 1, 0, 0, 0), (46, .getfield 21, 3, 6, 3, 0), (49, .iconst 0, 1, 0, 0, 0), (50, .aload_n 0, 1, 0, 0, 0), (51, .getfield 21, 3, 6, 3, 0), (54, .iconst 0, 1, 0, 0, 0), (55, .bipush 30, 2, 0, 0, 0), (57, .invokestatic 32, 3, 999998, 0, 6), (60, .aload_n 0, 1, 0, 0, 0), (61, .aload_n 1, 1, 0, 0, 0), (62, .getfield 24, 3, 6, 4, 0), (65, .putfield 24, 3, 6, 4, 0), (68, .aload_n 0, 1, 0, 0, 0), (69, .aload_n 1, 1, 0, 0, 0), (70, .getfield 28, 3, 6, 5, 0), (73, .putfield 28, 3, 6, 5, 0), (76, .return_, 1, 0, 0, 0)]
noncomputable def ij_t128 : List (Nat × ij_E) := [(0, .iload_n 1, 1, 0, 0, 0), (1, .ifCond .lt 21, 3, 0, 0, 0), (4, .iload_n 1, 1, 0, 0, 0), (5, .aload_n 0, 1, 0, 0, 0), (6, .getfield 30, 3, 10, 4, 0), (9, .getfield 166, 3, 2, 1, 0), (12, .if_icmp .gt 10, 3, 0, 0, 0), (15, .iload_n 1, 1, 0, 0, 0), (16, .sipush 300, 3, 0, 0, 0), (19, .if_icmp .le 9, 3, 0, 0, 0), (22, .aload_n 0, 1, 0, 0, 0), (23, .iconst 1, 1, 0, 0, 0), (24, .invokevirtual 139, 3, 44, 1, 20), (27, .ireturn, 1, 0, 0, 0), (28, .aload_n 0, 1, 0, 0, 0), (29, .getfield 46, 3, 10, 6, 0), (32, .iload_n 1, 1, 0, 0, 0), (33, .invokevirtual 194, 3, 126, 1, 17), (36, .istore_n 2, 1, 0, 0, 0), (37, .aload_n 0, 1, 0, 0, 0), (38, .getfield 30, 3, 10, 4, 0), (41, .iconst 0, 1, 0, 0, 0), (42, .putfield 166, 3, 2, 1, 0), (45, .iload_n 2, 1, 0, 0, 0), (46, .ifCond .ne 10, 3, 0, 0, 0), (49, .aload_n 0, 1, 0, 0, 0), (50, .bipush 9, 2, 0, 0, 0), (52, .invokevirtual 139, 3, 44, 1, 20), (55, .ireturn, 1, 0, 0, 0), (56, .aload_n 0, 1, 0, 0, 0), (57, .getfield 60, 3, 10, 8, 0), (60, .aload_n 0, 1, 0, 0, 0), (61, .getfield 46, 3, 10, 6, 0), (64, .getfield 195, 3, 7, 1, 0), (67, .invokevirtual 197, 3, 127, 1, 16), (70, .aload_n 0, 1, 0, 0, 0), (71, .aload_n 0, 1, 0, 0, 0), (72, .getfield 60, 3, 10, 8, 0), (75, .getfield 200, 3, 6, 4, 0), (78, .invokevirtual 191, 3, 90, 1, 20), (81, .ireturn, 1, 0, 0, 0)]
noncomputable def ij_t129 : List (Nat × ij_E) := [(0, .aload_n 0, 1, 0, 0, 0), (1, .ldc 204, 2, 1, 23, 0), (3, .invokevirtual 206, 3, 99, 1, 21), (6, .istore_n 2, 1, 0, 0, 0), (7, .iload_n 2, 1, 0, 0, 0), (8, .bipush 9, 2, 0, 0, 0), (10, .if_icmp .eq 15, 3, 0, 0, 0), (13, .iload_n 2, 1, 0, 0, 0), (14, .bipush 19, 2, 0, 0, 0), (16, .if_icmp .ge 9, 3, 0, 0, 0), (19, .aload_n 0, 1, 0, 0, 0), (20, .iconst 2, 1, 0, 0, 0), (21, .invokevirtual 197, 3, 100, 1, 21), (24, .ireturn, 1, 0, 0, 0), (25, .aload_n 0, 1, 0, 0, 0), (26, .getfield 7, 3, 11, 0, 0), (29, .iload_n 1, 1, 0, 0, 0), (30, .sipush 1500, 3, 0, 0, 0), (33, .iload_n 2, 1, 0, 0, 0), (34, .iadd, 1, 0, 0, 0), (35, .iastore, 1, 0, 0, 0), (36, .aload_n 0, 1, 0, 0, 0), (37, .invokevirtual 191, 3, 96, 0, 21), (40, .iload_n 2, 1, 0, 0, 0), (41, .bipush 20, 2, 0, 0, 0), (43, .if_icmp .eq 14, 3, 0, 0, 0), (46, .aload_n 0, 1, 0, 0, 0), (47, .iload_n 1, 1, 0, 0, 0), (48, .iconst 1, 1, 0, 0, 0), (49, .iadd, 1, 0, 0, 0), (50, .iconst 0, 1, 0, 0, 0), (51, .bipush 59, 2, 0, 0, 0), (53, .invokevirtual 200, 3, 102, 3, 21), (56, .ireturn, 1, 0, 0, 0), (57, .aload_n 0, 1, 0, 0, 0), (58, .bipush 60, 2, 0, 0, 0), (60, .invokevirtual 194, 3, 104, 1, 21), (63, .ifCond .ne 27, 3, 0, 0, 0), (66, .aload_n 0, 1, 0, 0, 0), (67, .bipush 62, 2, 0, 0, 0), (69, .invokevirtual 194, 3, 104, 1, 21), (72, .ifCond .ne 18, 3, 0, 0, 0), (75, .aload_n 0, 1, 0, 0, 0), (76, .bipush 61, 2, 0, 0, 0), (78, .invokevirtual 194, 3, 104, 1, 21), (81, .ifCond .ne 9, 3, 0, 0, 0), (84, .aload_n 0, 1, 0, 0, 0), (85, .iconst 2, 1, 0, 0, 0), (86, .invokevirtual 197, 3, 100, 1, 21), (89, .ireturn, 1, 0, 0, 0), (90, .aload_n 0, 1, 0, 0, 0), (91, .getfield 7, 3, 11, 0, 0), (94, .iload_n 1, 1, 0, 0, 0), (95, .iconst 5, 1, 0, 0, 0), (96, .iadd, 1, 0, 0, 0), (97, .aload_n 0, 1, 0, 0, 0), (98, .getfield 160, 3, 11, 14, 0), (101, .iastore, 1, 0, 0, 0), (102, .aload_n 0, 1, 0, 0, 0), (103, .invokevirtual 191, 3, 96, 0, 21), (106, .aload_n 0, 1, 0, 0, 0), (107, .iload_n 1, 1, 0, 0, 0), (108, .iconst 2, 1, 0, 0, 0), (109, .iadd, 1, 0, 0, 0), (110, .iconst 0, 1, 0, 0, 0), (111, .bipush 60, 2, 0, 0, 0), (113, .invokevirtual 200, 3, 102, 3, 21), (116, .ireturn, 1, 0, 0, 0)]
noncomputable def ij_t130 : List (Nat × ij_E) := [(0, .iload_n 1, 1, 0, 0, 0), (1, .tableswitch 91 5 16 #[63, 91, 91, 91, 91, 63, 63, 63, 91, 91, 85, 74], 63, 0, 0, 0), (64, .aload_n 0, 1, 0, 0, 0), (65, .iload_n 2, 1, 0, 0, 0), (66, .iconst 1, 1, 0, 0, 0), (67, .iadd, 1, 0, 0, 0), (68, .iconst 0, 1, 0, 0, 0), (69, .bipush 59, 2, 0, 0, 0), (71, .invokevirtual 200, 3, 102, 3, 21), (74, .ireturn, 1, 0, 0, 0), (75, .aload_n 0, 1, 0, 0, 0), (76, .iload_n 2, 1, 0, 0, 0), (77, .iconst 1, 1, 0, 0, 0), (78, .iadd, 1, 0, 0, 0), (79, .iconst 1, 1, 0, 0, 0), (80, .bipush 99, 2, 0, 0, 0), (82, .invokevirtual 200, 3, 102, 3, 21), (85, .ireturn, 1, 0, 0, 0), (86, .aload_n 0, 1, 0, 0, 0), (87, .iload_n 2, 1, 0, 0, 0), (88, .invokevirtual 251, 3, 129, 1, 21), (91, .ireturn, 1, 0, 0, 0), (92, .iconst 1, 1, 0, 0, 0), (93, .ireturn, 1, 0, 0, 0)]
noncomputable def ij_t131 : List (Nat × ij_E) := [(0, .aload_n 0, 1, 0, 0, 0), (1, .ldc 204, 2, 1, 23, 0), (3, .invokevirtual 206, 3, 99, 1, 21), (6, .istore_n 1, 1, 0, 0, 0), (7, .aload_n 0, 1, 0, 0, 0), (8, .getfield 7, 3, 11, 0, 0), (11, .sipush 1850, 3, 0, 0, 0), (14, .iaload, 1, 0, 0, 0), (15, .istore_n 2, 1, 0, 0, 0), (16, .sipush 1932, 3, 0, 0, 0), (19, .bipush 6, 2, 0, 0, 0), (21, .iload_n 2, 1, 0, 0, 0), (22, .imul, 1, 0, 0, 0), (23, .iadd, 1, 0, 0, 0), (24, .istore_n 3, 1, 0, 0, 0), (25, .iload_n 1, 1, 0, 0, 0), (26, .bipush 15, 2, 0, 0, 0), (28, .if_icmp .eq 15, 3, 0, 0, 0), (31, .iload_n 1, 1, 0, 0, 0), (32, .bipush 16, 2, 0, 0, 0), (34, .if_icmp .eq 9, 3, 0, 0, 0), (37, .iload_n 1, 1, 0, 0, 0), (38, .bipush 12, 2, 0, 0, 0), (40, .if_icmp .ne 7, 3, 0, 0, 0), (43, .iconst 1, 1, 0, 0, 0), (44, .goto 4, 3, 0, 0, 0), (47, .iconst 0, 1, 0, 0, 0), (48, .istore 4, 2, 0, 0, 0), (50, .iload_n 1, 1, 0, 0, 0), (51, .iconst 5, 1, 0, 0, 0), (52, .if_icmp .eq 15, 3, 0, 0, 0), (55, .iload_n 1, 1, 0, 0, 0), (56, .bipush 10, 2, 0, 0, 0), (58, .if_icmp .lt 13, 3, 0, 0, 0), (61, .iload_n 1, 1, 0, 0, 0), (62, .bipush 18, 2, 0, 0, 0), (64, .if_icmp .gt 7, 3, 0, 0, 0), (67, .iconst 1, 1, 0, 0, 0), (68, .goto 4, 3, 0, 0, 0), (71, .iconst 0, 1, 0, 0, 0), (72, .istore 5, 2, 0, 0, 0), (74, .iload 5, 2, 0, 0, 0), (76, .ifCond .eq 16, 3, 0, 0, 0), (79, .iload_n 1, 1, 0, 0, 0), (80, .bipush 17, 2, 0, 0, 0), (82, .if_icmp .ne 16, 3, 0, 0, 0), (85, .aload_n 0, 1, 0, 0, 0), (86, .getfield 254, 3, 11, 20, 0), (89, .ifCond .ne 9, 3, 0, 0, 0), (92, .aload_n 0, 1, 0, 0, 0), (93, .iconst 2, 1, 0, 0, 0), (94, .invokevirtual 197, 3, 100, 1, 21), (97, .ireturn, 1, 0, 0, 0), (98, .iload_n 1, 1, 0, 0, 0), (99, .bipush 17, 2, 0, 0, 0), (101, .if_icmp .eq 19, 3, 0, 0, 0), (104, .aload_n 0, 1, 0, 0, 0), (105, .getfield 257, 3, 11, 21, 0), (108, .bipush 30, 2, 0, 0, 0), (110, .if_icmp .ne 10, 3, 0, 0, 0), (113, .aload_n 0, 1, 0, 0, 0), (114, .bipush 6, 2, 0, 0, 0), (116, .invokevirtual 197, 3, 100, 1, 21), (119, .ireturn, 1, 0, 0, 0), (120, .iload 4, 2, 0, 0, 0), (122, .ifCond .eq 18, 3, 0, 0, 0), (125, .aload_n 0, 1, 0, 0, 0), (126, .getfield 254, 3, 11, 20, 0), (129, .iconst 3, 1, 0, 0, 0), (130, .if_icmp .ne 10, 3, 0, 0, 0), (133, .aload_n 0, 1, 0, 0, 0), (134, .bipush 7, 2, 0, 0, 0), (136, .invokevirtual 197, 3, 100, 1, 21), (139, .ireturn, 1, 0, 0, 0), (140, .aload_n 0, 1, 0, 0, 0), (141, .dup, 1, 0, 0, 0), (142, .getfield 257, 3, 11, 21, 0), (145, .iload_n 1, 1, 0, 0, 0), (146, .bipush 17, 2, 0, 0, 0), (148, .if_icmp .ne 7, 3, 0, 0, 0), (151, .iconst 0, 1, 0, 0, 0), (152, .goto 4, 3, 0, 0, 0), (155, .iconst 1, 1, 0, 0, 0), (156, .iadd, 1, 0, 0, 0), (157, .putfield 257, 3, 11, 21, 0), (160, .aload_n 0, 1, 0, 0, 0), (161, .getfield 7, 3, 11, 0, 0), (164, .iload_n 3, 1, 0, 0, 0), (165, .iload_n 1, 1, 0, 0, 0), (166, .iastore, 1, 0, 0, 0), (167, .iconst 1, 1, 0, 0, 0), (168, .istore 6, 2, 0, 0, 0), (170, .iload 6, 2, 0, 0, 0), (172, .bipush 6, 2, 0, 0, 0), (174, .if_icmp .ge 19, 3, 0, 0, 0), (177, .aload_n 0, 1, 0, 0, 0), (178, .getfield 7, 3, 11, 0, 0), (181, .iload_n 3, 1, 0, 0, 0), (182, .iload 6, 2, 0, 0, 0), (184, .iadd, 1, 0, 0, 0), (185, .iconst 0, 1, 0, 0, 0), (186, .iastore, 1, 0, 0, 0), (187, .iinc 6 1, 3, 0, 0, 0), (190, .goto (-20), 3, 0, 0, 0), (193, .aload_n 0, 1, 0, 0, 0), (194, .getfield 7, 3, 11, 0, 0), (197, .sipush 1850, 3, 0, 0, 0), (200, .dup2, 1, 0, 0, 0), (201, .iaload, 1, 0, 0, 0), (202, .iconst 1, 1, 0, 0, 0), (203, .iadd, 1, 0, 0, 0), (204, .iastore, 1, 0, 0, 0), (205, .aload_n 0, 1, 0, 0, 0), (206, .invokevirtual 191, 3, 96, 0, 21), (209, .aload_n 0, 1, 0, 0, 0), (210, .iload_n 1, 1, 0, 0, 0), (211, .iload_n 3, 1, 0, 0, 0), (212, .invokevirtual 260, 3, 130, 2, 21), (215, .ifCond .ne 5, 3, 0, 0, 0), (218, .iconst 0, 1, 0, 0, 0), (219, .ireturn, 1, 0, 0, 0), (220, .iload_n 1, 1, 0, 0, 0), (221, .bipush 13, 2, 0, 0, 0), (223, .if_icmp .ne 12, 3, 0, 0, 0), (226, .aload_n 0, 1, 0, 0, 0), (227, .getfield 7, 3, 11, 0, 0), (230, .iload_n 3, 1, 0, 0, 0), (231, .iconst 4, 1, 0, 0, 0), (232, .iadd, 1, 0, 0, 0), (233, .iconst (-1), 1, 0, 0, 0), (234, .iastore, 1, 0, 0, 0), (235, .iconst 0, 1, 0, 0, 0), (236, .istore 6, 2, 0, 0, 0), (238, .iload 6, 2, 0, 0, 0), (240, .aload_n 0, 1, 0, 0, 0), (241, .getfield 254, 3, 11, 20, 0), (244, .if_icmp .ge 54, 3, 0, 0, 0), (247, .iload_n 1, 1, 0, 0, 0), (248, .bipush 13, 2, 0, 0, 0), (250, .if_icmp .ne 48, 3, 0, 0, 0), (253, .aload_n 0, 1, 0, 0, 0), (254, .getfield 7, 3, 11, 0, 0), (257, .sipush 1932, 3, 0, 0, 0), (260, .bipush 6, 2, 0, 0, 0), (262, .aload_n 0, 1, 0, 0, 0), (263, .getfield 41, 3, 11, 19, 0), (266, .iload 6, 2, 0, 0, 0), (268, .iaload, 1, 0, 0, 0), (269, .imul, 1, 0, 0, 0), (270, .iadd, 1, 0, 0, 0), (271, .iaload, 1, 0, 0, 0), (272, .bipush 12, 2, 0, 0, 0), (274, .if_icmp .ne 18, 3, 0, 0, 0), (277, .aload_n 0, 1, 0, 0, 0), (278, .getfield 7, 3, 11, 0, 0), (281, .iload_n 3, 1, 0, 0, 0), (282, .iconst 4, 1, 0, 0, 0), (283, .iadd, 1, 0, 0, 0), (284, .aload_n 0, 1, 0, 0, 0), (285, .getfield 41, 3, 11, 19, 0), (288, .iload 6, 2, 0, 0, 0), (290, .iaload, 1, 0, 0, 0), (291, .iastore, 1, 0, 0, 0), (292, .iinc 6 1, 3, 0, 0, 0), (295, .goto (-57), 3, 0, 0, 0), (298, .iload 4, 2, 0, 0, 0), (300, .ifCond .eq 23, 3, 0, 0, 0), (303, .aload_n 0, 1, 0, 0, 0), (304, .getfield 41, 3, 11, 19, 0), (307, .aload_n 0, 1, 0, 0, 0), (308, .getfield 254, 3, 11, 20, 0), (311, .iload_n 2, 1, 0, 0, 0), (312, .iastore, 1, 0, 0, 0), (313, .aload_n 0, 1, 0, 0, 0), (314, .dup, 1, 0, 0, 0), (315, .getfield 254, 3, 11, 20, 0), (318, .iconst 1, 1, 0, 0, 0), (319, .iadd, 1, 0, 0, 0), (320, .putfield 254, 3, 11, 20, 0), (323, .iload_n 1, 1, 0, 0, 0), (324, .bipush 17, 2, 0, 0, 0), (326, .if_icmp .ne 54, 3, 0, 0, 0), (329, .aload_n 0, 1, 0, 0, 0), (330, .dup, 1, 0, 0, 0), (331, .getfield 254, 3, 11, 20, 0), (334, .iconst 1, 1, 0, 0, 0), (335, .isub, 1, 0, 0, 0), (336, .putfield 254, 3, 11, 20, 0), (339, .aload_n 0, 1, 0, 0, 0), (340, .getfield 7, 3, 11, 0, 0), (343, .iload_n 3, 1, 0, 0, 0), (344, .iconst 4, 1, 0, 0, 0), (345, .iadd, 1, 0, 0, 0), (346, .aload_n 0, 1, 0, 0, 0), (347, .getfield 41, 3, 11, 19, 0), (350, .aload_n 0, 1, 0, 0, 0), (351, .getfield 254, 3, 11, 20, 0), (354, .iaload, 1, 0, 0, 0), (355, .iastore, 1, 0, 0, 0), (356, .aload_n 0, 1, 0, 0, 0), (357, .getfield 7, 3, 11, 0, 0), (360, .sipush 1932, 3, 0, 0, 0), (363, .bipush 6, 2, 0, 0, 0), (365, .aload_n 0, 1, 0, 0, 0), (366, .getfield 41, 3, 11, 19, 0), (369, .aload_n 0, 1, 0, 0, 0), (370, .getfield 254, 3, 11, 20, 0), (373, .iaload, 1, 0, 0, 0), (374, .imul, 1, 0, 0, 0), (375, .iadd, 1, 0, 0, 0), (376, .iconst 4, 1, 0, 0, 0), (377, .iadd, 1, 0, 0, 0), (378, .iload_n 2, 1, 0, 0, 0), (379, .iastore, 1, 0, 0, 0), (380, .aload_n 0, 1, 0, 0, 0), (381, .bipush 59, 2, 0, 0, 0), (383, .invokevirtual 221, 3, 105, 1, 21), (386, .ireturn, 1, 0, 0, 0)]
noncomputable def ij_t132 : List (Nat × ij_E) := [(0, .aload_n 0, 1, 0, 0, 0), (1, .iload_n 1, 1, 0, 0, 0), (2, .sipush 300, 3, 0, 0, 0), (5, .invokevirtual 233, 3, 97, 2, 21), (8, .ifCond .ne 9, 3, 0, 0, 0), (11, .aload_n 0, 1, 0, 0, 0), (12, .iconst 1, 1, 0, 0, 0), (13, .invokevirtual 118, 3, 98, 1, 21), (16, .ireturn, 1, 0, 0, 0), (17, .aload_n 0, 1, 0, 0, 0), (18, .getfield 7, 3, 11, 0, 0), (21, .sipush 1850, 3, 0, 0, 0), (24, .iconst 0, 1, 0, 0, 0), (25, .iastore, 1, 0, 0, 0), (26, .aload_n 0, 1, 0, 0, 0), (27, .iconst 0, 1, 0, 0, 0), (28, .putfield 254, 3, 11, 20, 0), (31, .aload_n 0, 1, 0, 0, 0), (32, .iconst 0, 1, 0, 0, 0), (33, .putfield 257, 3, 11, 21, 0), (36, .iconst 1, 1, 0, 0, 0), (37, .istore_n 2, 1, 0, 0, 0), (38, .iload_n 2, 1, 0, 0, 0), (39, .ifCond .eq 18, 3, 0, 0, 0), (42, .aload_n 0, 1, 0, 0, 0), (43, .getfield 163, 3, 11, 11, 0), (46, .ifCond .eq 11, 3, 0, 0, 0), (49, .aload_n 0, 1, 0, 0, 0), (50, .invokevirtual 263, 3, 131, 0, 21), (53, .istore_n 2, 1, 0, 0, 0), (54, .goto (-16), 3, 0, 0, 0), (57, .aload_n 0, 1, 0, 0, 0), (58, .getfield 188, 3, 11, 17, 0), (61, .ifCond .ne 16, 3, 0, 0, 0), (64, .aload_n 0, 1, 0, 0, 0), (65, .getfield 254, 3, 11, 20, 0), (68, .ifCond .le 9, 3, 0, 0, 0), (71, .aload_n 0, 1, 0, 0, 0), (72, .iconst 2, 1, 0, 0, 0), (73, .invokevirtual 197, 3, 100, 1, 21), (76, .pop, 1, 0, 0, 0), (77, .aload_n 0, 1, 0, 0, 0), (78, .getfield 188, 3, 11, 17, 0), (81, .ifCond .ne 50, 3, 0, 0, 0), (84, .aload_n 0, 1, 0, 0, 0), (85, .getfield 7, 3, 11, 0, 0), (88, .bipush 10, 2, 0, 0, 0), (90, .aload_n 0, 1, 0, 0, 0), (91, .getfield 7, 3, 11, 0, 0), (94, .sipush 1850, 3, 0, 0, 0), (97, .iaload, 1, 0, 0, 0), (98, .iastore, 1, 0, 0, 0), (99, .bipush 92, 2, 0, 0, 0), (101, .istore_n 3, 1, 0, 0, 0), (102, .iload_n 3, 1, 0, 0, 0), (103, .sipush 452, 3, 0, 0, 0), (106, .if_icmp .ge 25, 3, 0, 0, 0), (109, .aload_n 0, 1, 0, 0, 0), (110, .getfield 7, 3, 11, 0, 0), (113, .iload_n 3, 1, 0, 0, 0), (114, .aload_n 0, 1, 0, 0, 0), (115, .getfield 7, 3, 11, 0, 0), (118, .sipush 1840, 3, 0, 0, 0), (121, .iload_n 3, 1, 0, 0, 0), (122, .iadd, 1, 0, 0, 0), (123, .iaload, 1, 0, 0, 0), (124, .iastore, 1, 0, 0, 0), (125, .iinc 3 1, 3, 0, 0, 0), (128, .goto (-26), 3, 0, 0, 0), (131, .aload_n 0, 1, 0, 0, 0), (132, .aload_n 0, 1, 0, 0, 0), (133, .getfield 257, 3, 11, 21, 0), (136, .invokevirtual 248, 3, 116, 1, 21), (139, .ireturn, 1, 0, 0, 0)]
noncomputable def ij_t133 : List (Nat × ij_E) := [(0, .iload_n 1, 1, 0, 0, 0), (1, .ifCond .ne 11, 3, 0, 0, 0), (4, .aload_n 0, 1, 0, 0, 0), (5, .getfield 30, 3, 10, 4, 0), (8, .getfield 203, 3, 2, 7, 0), (11, .ireturn, 1, 0, 0, 0), (12, .iload_n 1, 1, 0, 0, 0), (13, .iconst 1, 1, 0, 0, 0), (14, .if_icmp .ne 13, 3, 0, 0, 0), (17, .aload_n 0, 1, 0, 0, 0), (18, .getfield 30, 3, 10, 4, 0), (21, .getfield 206, 3, 2, 8, 0), (24, .goto 4, 3, 0, 0, 0), (27, .iconst (-1), 1, 0, 0, 0), (28, .ireturn, 1, 0, 0, 0)]
noncomputable def ij_t134 : List (Nat × ij_E) := [(0, .iload_n 1, 1, 0, 0, 0), (1, .ifCond .ne 10, 3, 0, 0, 0), (4, .aload_n 0, 1, 0, 0, 0), (5, .getfield 34, 3, 11, 15, 0), (8, .goto 16, 3, 0, 0, 0), (11, .iload_n 1, 1, 0, 0, 0), (12, .iconst 1, 1, 0, 0, 0), (13, .if_icmp .ne 10, 3, 0, 0, 0), (16, .aload_n 0, 1, 0, 0, 0), (17, .getfield 38, 3, 11, 16, 0), (20, .goto 4, 3, 0, 0, 0), (23, .iconst (-1), 1, 0, 0, 0), (24, .ireturn, 1, 0, 0, 0)]
noncomputable def ij_t135 : List (Nat × ij_E) := [(0, .iload_n 1, 1, 0, 0, 0), (1, .ifCond .lt 21, 3, 0, 0, 0), (4, .iload_n 1, 1, 0, 0, 0), (5, .aload_n 0, 1, 0, 0, 0), (6, .getfield 9, 3, 4, 0, 0), (9, .arraylength, 1, 0, 0, 0), (10, .if_icmp .ge 12, 3, 0, 0, 0), (13, .aload_n 0, 1, 0, 0, 0), (14, .getfield 9, 3, 4, 0, 0), (17, .iload_n 1, 1, 0, 0, 0), (18, .iaload, 1, 0, 0, 0), (19, .goto 4, 3, 0, 0, 0), (22, .iconst 0, 1, 0, 0, 0), (23, .ireturn, 1, 0, 0, 0)]
noncomputable def ij_t136 : List (Nat × ij_E) := [(0, .aload_n 0, 1, 0, 0, 0), (1, .lload_n 1, 1, 0, 0, 0), (2, .putfield 15, 3, 3, 1, 0), (5, .aload_n 0, 1, 0, 0, 0), (6, .iload_n 3, 1, 0, 0, 0), (7, .putfield 19, 3, 3, 2, 0), (10, .aload_n 0, 1, 0, 0, 0), (11, .iconst 0, 1, 0, 0, 0), (12, .putfield 23, 3, 3, 3, 0), (15, .iconst 0, 1, 0, 0, 0), (16, .istore 4, 2, 0, 0, 0), (18, .iload 4, 2, 0, 0, 0), (20, .iload_n 3, 1, 0, 0, 0), (21, .if_icmp .ge 51, 3, 0, 0, 0), (24, .aload_n 0, 1, 0, 0, 0), (25, .getfield 23, 3, 3, 3, 0), (28, .aload_n 0, 1, 0, 0, 0), (29, .getfield 9, 3, 3, 0, 0), (32, .arraylength, 1, 0, 0, 0), (33, .if_icmp .ge 39, 3, 0, 0, 0), (36, .lload_n 1, 1, 0, 0, 0), (37, .iload 4, 2, 0, 0, 0), (39, .invokestatic 26, 3, 74, 2, 1), (42, .ifCond .eq 24, 3, 0, 0, 0), (45, .aload_n 0, 1, 0, 0, 0), (46, .getfield 9, 3, 3, 0, 0), (49, .aload_n 0, 1, 0, 0, 0), (50, .getfield 23, 3, 3, 3, 0), (53, .iload 4, 2, 0, 0, 0), (55, .iastore, 1, 0, 0, 0), (56, .aload_n 0, 1, 0, 0, 0), (57, .dup, 1, 0, 0, 0), (58, .getfield 23, 3, 3, 3, 0), (61, .iconst 1, 1, 0, 0, 0), (62, .iadd, 1, 0, 0, 0), (63, .putfield 23, 3, 3, 3, 0), (66, .iinc 4 1, 3, 0, 0, 0), (69, .goto (-51), 3, 0, 0, 0), (72, .return_, 1, 0, 0, 0)]
noncomputable def ij_t137 : List (Nat × ij_E) := [(0, .aload_n 0, 1, 0, 0, 0), (1, .getfield 67, 3, 10, 9, 0), (4, .aload_n 0, 1, 0, 0, 0), (5, .getfield 53, 3, 10, 7, 0), (8, .getfield 285, 3, 4, 4, 0), (11, .aload_n 0, 1, 0, 0, 0), (12, .getfield 53, 3, 10, 7, 0), (15, .invokevirtual 266, 3, 80, 0, 14), (18, .invokevirtual 412, 3, 136, 2, 13), (21, .aload_n 0, 1, 0, 0, 0), (22, .getfield 67, 3, 10, 9, 0), (25, .areturn, 1, 0, 0, 0)]
noncomputable def ij_t138 : List (Nat × ij_E) := [(0, .iload_n 1, 1, 0, 0, 0), (1, .ifCond .lt 29, 3, 0, 0, 0), (4, .iload_n 1, 1, 0, 0, 0), (5, .aload_n 0, 1, 0, 0, 0), (6, .getfield 23, 3, 3, 3, 0), (9, .if_icmp .ge 21, 3, 0, 0, 0), (12, .iload_n 1, 1, 0, 0, 0), (13, .aload_n 0, 1, 0, 0, 0), (14, .getfield 9, 3, 3, 0, 0), (17, .arraylength, 1, 0, 0, 0), (18, .if_icmp .ge 12, 3, 0, 0, 0), (21, .aload_n 0, 1, 0, 0, 0), (22, .getfield 9, 3, 3, 0, 0), (25, .iload_n 1, 1, 0, 0, 0), (26, .iaload, 1, 0, 0, 0), (27, .goto 4, 3, 0, 0, 0), (30, .iconst (-1), 1, 0, 0, 0), (31, .ireturn, 1, 0, 0, 0)]
noncomputable def ij_t139 : List (Nat × ij_E) := [(0, .aload_n 0, 1, 0, 0, 0), (1, .iload_n 2, 1, 0, 0, 0), (2, .invokevirtual 36, 3, 138, 1, 13), (5, .aload_n 0, 1, 0, 0, 0), (6, .iload_n 1, 1, 0, 0, 0), (7, .invokevirtual 36, 3, 138, 1, 13), (10, .isub, 1, 0, 0, 0), (11, .istore_n 3, 1, 0, 0, 0), (12, .iload_n 3, 1, 0, 0, 0), (13, .ifCond .ge 12, 3, 0, 0, 0), (16, .iload_n 3, 1, 0, 0, 0), (17, .aload_n 0, 1, 0, 0, 0), (18, .getfield 19, 3, 3, 2, 0), (21, .iadd, 1, 0, 0, 0), (22, .goto 4, 3, 0, 0, 0), (25, .iload_n 3, 1, 0, 0, 0), (26, .ireturn, 1, 0, 0, 0)]
noncomputable def ij_t140 : List (Nat × ij_E) := [(0, .aload_n 0, 1, 0, 0, 0), (1, .getfield 23, 3, 3, 3, 0), (4, .iconst 1, 1, 0, 0, 0), (5, .if_icmp .ge 5, 3, 0, 0, 0), (8, .iconst 0, 1, 0, 0, 0), (9, .ireturn, 1, 0, 0, 0), (10, .iload_n 2, 1, 0, 0, 0), (11, .aload_n 0, 1, 0, 0, 0), (12, .getfield 23, 3, 3, 3, 0), (15, .idiv, 1, 0, 0, 0), (16, .aload_n 0, 1, 0, 0, 0), (17, .getfield 19, 3, 3, 2, 0), (20, .imul, 1, 0, 0, 0), (21, .aload_n 0, 1, 0, 0, 0), (22, .iload_n 1, 1, 0, 0, 0), (23, .iload_n 1, 1, 0, 0, 0), (24, .iload_n 2, 1, 0, 0, 0), (25, .iadd, 1, 0, 0, 0), (26, .aload_n 0, 1, 0, 0, 0), (27, .getfield 23, 3, 3, 3, 0), (30, .irem, 1, 0, 0, 0), (31, .invokevirtual 32, 3, 139, 2, 13), (34, .iadd, 1, 0, 0, 0), (35, .ireturn, 1, 0, 0, 0)]
noncomputable def ij_t141 : List (Nat × ij_E) := [(0, .lconst 0, 1, 0, 0, 0), (1, .lstore_n 1, 1, 0, 0, 0), (2, .iconst 0, 1, 0, 0, 0), (3, .istore_n 3, 1, 0, 0, 0), (4, .iload_n 3, 1, 0, 0, 0), (5, .aload_n 0, 1, 0, 0, 0), (6, .getfield 23, 3, 3, 3, 0), (9, .if_icmp .ge 21, 3, 0, 0, 0), (12, .lload_n 1, 1, 0, 0, 0), (13, .aload_n 0, 1, 0, 0, 0), (14, .iload_n 3, 1, 0, 0, 0), (15, .iconst 1, 1, 0, 0, 0), (16, .invokevirtual 50, 3, 140, 2, 13), (19, .invokestatic 40, 3, 6, 1, 1), (22, .lor, 1, 0, 0, 0), (23, .lstore_n 1, 1, 0, 0, 0), (24, .iinc 3 1, 3, 0, 0, 0), (27, .goto (-23), 3, 0, 0, 0), (30, .lload_n 1, 1, 0, 0, 0), (31, .lreturn, 1, 0, 0, 0)]
noncomputable def ij_t142 : List (Nat × ij_E) := [(0, .iload_n 1, 1, 0, 0, 0), (1, .ifCond .lt 22, 3, 0, 0, 0), (4, .iload_n 1, 1, 0, 0, 0), (5, .bipush 9, 2, 0, 0, 0), (7, .if_icmp .ge 16, 3, 0, 0, 0), (10, .aload_n 0, 1, 0, 0, 0), (11, .aload_n 0, 1, 0, 0, 0), (12, .getfield 53, 3, 10, 7, 0), (15, .iload_n 1, 1, 0, 0, 0), (16, .invokevirtual 209, 3, 135, 1, 14), (19, .invokevirtual 191, 3, 90, 1, 20), (22, .ireturn, 1, 0, 0, 0), (23, .iload_n 1, 1, 0, 0, 0), (24, .tableswitch 70 9 11 #[28, 40, 55], 28, 0, 0, 0), (52, .aload_n 0, 1, 0, 0, 0), (53, .aload_n 0, 1, 0, 0, 0), (54, .getfield 53, 3, 10, 7, 0), (57, .invokevirtual 187, 3, 89, 0, 14), (60, .invokevirtual 191, 3, 90, 1, 20), (63, .ireturn, 1, 0, 0, 0), (64, .aload_n 0, 1, 0, 0, 0), (65, .aload_n 0, 1, 0, 0, 0), (66, .invokevirtual 212, 3, 137, 0, 20), (69, .invokevirtual 216, 3, 141, 0, 13), (72, .invokestatic 220, 3, 88, 1, 1), (75, .invokevirtual 191, 3, 90, 1, 20), (78, .ireturn, 1, 0, 0, 0), (79, .aload_n 0, 1, 0, 0, 0), (80, .aload_n 0, 1, 0, 0, 0), (81, .getfield 53, 3, 10, 7, 0), (84, .getfield 226, 3, 4, 3, 0), (87, .invokestatic 220, 3, 88, 1, 1), (90, .invokevirtual 191, 3, 90, 1, 20), (93, .ireturn, 1, 0, 0, 0), (94, .aload_n 0, 1, 0, 0, 0), (95, .iconst 1, 1, 0, 0, 0), (96, .invokevirtual 139, 3, 44, 1, 20), (99, .ireturn, 1, 0, 0, 0)]
noncomputable def ij_t143 : List (Nat × ij_E) := [(0, .aload_n 0, 1, 0, 0, 0), (1, .getfield 7, 3, 11, 0, 0), (4, .bipush 20, 2, 0, 0, 0), (6, .iload_n 1, 1, 0, 0, 0), (7, .iadd, 1, 0, 0, 0), (8, .iaload, 1, 0, 0, 0), (9, .ireturn, 1, 0, 0, 0)]
noncomputable def ij_t144 : List (Nat × ij_E) := [(0, .iconst 0, 1, 0, 0, 0), (1, .istore_n 1, 1, 0, 0, 0), (2, .iconst 0, 1, 0, 0, 0), (3, .istore_n 2, 1, 0, 0, 0), (4, .iload_n 2, 1, 0, 0, 0), (5, .bipush 60, 2, 0, 0, 0), (7, .if_icmp .ge 17, 3, 0, 0, 0), (10, .iload_n 1, 1, 0, 0, 0), (11, .aload_n 0, 1, 0, 0, 0), (12, .iload_n 2, 1, 0, 0, 0), (13, .invokevirtual 279, 3, 143, 1, 21), (16, .iadd, 1, 0, 0, 0), (17, .istore_n 1, 1, 0, 0, 0), (18, .iinc 2 1, 3, 0, 0, 0), (21, .goto (-17), 3, 0, 0, 0), (24, .iload_n 1, 1, 0, 0, 0), (25, .ireturn, 1, 0, 0, 0)]
noncomputable def ij_t145 : List (Nat × ij_E) := [(0, .iload_n 1, 1, 0, 0, 0), (1, .ifCond .lt 20, 3, 0, 0, 0), (4, .iload_n 1, 1, 0, 0, 0), (5, .bipush 8, 2, 0, 0, 0), (7, .if_icmp .gt 14, 3, 0, 0, 0), (10, .aload_n 0, 1, 0, 0, 0), (11, .aload_n 0, 1, 0, 0, 0), (12, .getfield 7, 3, 11, 0, 0), (15, .iload_n 1, 1, 0, 0, 0), (16, .iaload, 1, 0, 0, 0), (17, .invokevirtual 122, 3, 115, 1, 21), (20, .ireturn, 1, 0, 0, 0), (21, .aload_n 0, 1, 0, 0, 0), (22, .invokevirtual 242, 3, 114, 0, 21), (25, .iload_n 1, 1, 0, 0, 0), (26, .tableswitch 53 9 11 #[26, 35, 44], 26, 0, 0, 0), (52, .aload_n 0, 1, 0, 0, 0), (53, .aload_n 0, 1, 0, 0, 0), (54, .getfield 245, 3, 11, 26, 0), (57, .invokevirtual 122, 3, 115, 1, 21), (60, .ireturn, 1, 0, 0, 0), (61, .aload_n 0, 1, 0, 0, 0), (62, .aload_n 0, 1, 0, 0, 0), (63, .getfield 269, 3, 11, 27, 0), (66, .invokevirtual 122, 3, 115, 1, 21), (69, .ireturn, 1, 0, 0, 0), (70, .aload_n 0, 1, 0, 0, 0), (71, .aload_n 0, 1, 0, 0, 0), (72, .invokevirtual 282, 3, 144, 0, 21), (75, .invokevirtual 122, 3, 115, 1, 21), (78, .ireturn, 1, 0, 0, 0), (79, .aload_n 0, 1, 0, 0, 0), (80, .iconst 1, 1, 0, 0, 0), (81, .invokevirtual 118, 3, 98, 1, 21), (84, .ireturn, 1, 0, 0, 0)]
noncomputable def ij_t146 : List (Nat × ij_E) := [(0, .iload_n 0, 1, 0, 0, 0), (1, .bipush (-60), 2, 0, 0, 0), (3, .if_icmp .lt 9, 3, 0, 0, 0), (6, .iload_n 0, 1, 0, 0, 0), (7, .bipush 60, 2, 0, 0, 0), (9, .if_icmp .le 7, 3, 0, 0, 0), (12, .iconst 1, 1, 0, 0, 0), (13, .goto 4, 3, 0, 0, 0), (16, .iconst 0, 1, 0, 0, 0), (17, .ireturn, 1, 0, 0, 0)]
noncomputable def ij_t147 : List (Nat × ij_E) := [(0, .aload_n 0, 1, 0, 0, 0), (1, .aload_n 0, 1, 0, 0, 0), (2, .getfield 9, 3, 4, 0, 0), (5, .iconst 5, 1, 0, 0, 0), (6, .iaload, 1, 0, 0, 0), (7, .iload_n 1, 1, 0, 0, 0), (8, .aload_n 0, 1, 0, 0, 0), (9, .getfield 9, 3, 4, 0, 0), (12, .iconst 4, 1, 0, 0, 0), (13, .iaload, 1, 0, 0, 0), (14, .isub, 1, 0, 0, 0), (15, .aload_n 0, 1, 0, 0, 0), (16, .getfield 9, 3, 4, 0, 0), (19, .iconst 2, 1, 0, 0, 0), (20, .iaload, 1, 0, 0, 0), (21, .imul, 1, 0, 0, 0), (22, .iadd, 1, 0, 0, 0), (23, .invokevirtual 48, 3, 5, 1, 14), (26, .ireturn, 1, 0, 0, 0)]
noncomputable def ij_t148 : List (Nat × ij_E) := [(0, .iload_n 1, 1, 0, 0, 0), (1, .invokestatic 229, 3, 146, 1, 1), (4, .ifCond .eq 11, 3, 0, 0, 0), (7, .aload_n 0, 1, 0, 0, 0), (8, .iconst 1, 1, 0, 0, 0), (9, .invokevirtual 139, 3, 44, 1, 20), (12, .goto 15, 3, 0, 0, 0), (15, .aload_n 0, 1, 0, 0, 0), (16, .aload_n 0, 1, 0, 0, 0), (17, .getfield 53, 3, 10, 7, 0), (20, .iload_n 1, 1, 0, 0, 0), (21, .invokevirtual 232, 3, 147, 1, 14), (24, .invokevirtual 191, 3, 90, 1, 20), (27, .ireturn, 1, 0, 0, 0)]
noncomputable def ij_t149 : List (Nat × ij_E) := [(0, .lload_n 0, 1, 0, 0, 0), (1, .lload_n 2, 1, 0, 0, 0), (2, .lcmp, 1, 0, 0, 0), (3, .ifCond .lt 14, 3, 0, 0, 0), (6, .lload_n 0, 1, 0, 0, 0), (7, .lload 4, 2, 0, 0, 0), (9, .lcmp, 1, 0, 0, 0), (10, .ifCond .gt 7, 3, 0, 0, 0), (13, .iconst 1, 1, 0, 0, 0), (14, .goto 4, 3, 0, 0, 0), (17, .iconst 0, 1, 0, 0, 0), (18, .ireturn, 1, 0, 0, 0)]
noncomputable def ij_t150 : List (Nat × ij_E) := [(0, .iload_n 1, 1, 0, 0, 0), (1, .i2l, 1, 0, 0, 0), (2, .ldc2_w 285, 3, 0, 18446744073709551556, 0), (5, .ldc2_w 287, 3, 0, 60, 0), (8, .invokestatic 289, 3, 149, 3, 1), (11, .ifCond .eq 21, 3, 0, 0, 0), (14, .aload_n 0, 1, 0, 0, 0), (15, .aload_n 0, 1, 0, 0, 0), (16, .iload_n 1, 1, 0, 0, 0), (17, .aload_n 0, 1, 0, 0, 0), (18, .getfield 7, 3, 11, 0, 0), (21, .iconst 2, 1, 0, 0, 0), (22, .iaload, 1, 0, 0, 0), (23, .invokevirtual 272, 3, 112, 2, 21), (26, .invokevirtual 122, 3, 115, 1, 21), (29, .goto 8, 3, 0, 0, 0), (32, .aload_n 0, 1, 0, 0, 0), (33, .iconst 1, 1, 0, 0, 0), (34, .invokevirtual 118, 3, 98, 1, 21), (37, .ireturn, 1, 0, 0, 0)]
noncomputable def ij_t151 : List (Nat × ij_E) := [(0, .iload_n 1, 1, 0, 0, 0), (1, .ifCond .lt 18, 3, 0, 0, 0), (4, .iload_n 1, 1, 0, 0, 0), (5, .aload_n 0, 1, 0, 0, 0), (6, .getfield 53, 3, 10, 7, 0), (9, .invokevirtual 187, 3, 89, 0, 14), (12, .if_icmp .ge 7, 3, 0, 0, 0), (15, .iconst 1, 1, 0, 0, 0), (16, .goto 4, 3, 0, 0, 0), (19, .iconst 0, 1, 0, 0, 0), (20, .ireturn, 1, 0, 0, 0)]
noncomputable def ij_t152 : List (Nat × ij_E) := [(0, .aload_n 0, 1, 0, 0, 0), (1, .iload_n 1, 1, 0, 0, 0), (2, .invokevirtual 235, 3, 151, 1, 20), (5, .ifCond .eq 18, 3, 0, 0, 0), (8, .aload_n 0, 1, 0, 0, 0), (9, .aload_n 0, 1, 0, 0, 0), (10, .invokevirtual 212, 3, 137, 0, 20), (13, .iload_n 1, 1, 0, 0, 0), (14, .invokevirtual 238, 3, 138, 1, 13), (17, .invokevirtual 191, 3, 90, 1, 20), (20, .goto 8, 3, 0, 0, 0), (23, .aload_n 0, 1, 0, 0, 0), (24, .iconst 1, 1, 0, 0, 0), (25, .invokevirtual 139, 3, 44, 1, 20), (28, .ireturn, 1, 0, 0, 0)]
noncomputable def ij_t153 : List (Nat × ij_E) := [(0, .aload_n 0, 1, 0, 0, 0), (1, .invokevirtual 242, 3, 114, 0, 21), (4, .iload_n 1, 1, 0, 0, 0), (5, .ifCond .lt 15, 3, 0, 0, 0), (8, .iload_n 1, 1, 0, 0, 0), (9, .aload_n 0, 1, 0, 0, 0), (10, .getfield 245, 3, 11, 26, 0), (13, .if_icmp .ge 7, 3, 0, 0, 0), (16, .iconst 1, 1, 0, 0, 0), (17, .goto 4, 3, 0, 0, 0), (20, .iconst 0, 1, 0, 0, 0), (21, .ireturn, 1, 0, 0, 0)]
noncomputable def ij_t154 : List (Nat × ij_E) := [(0, .aload_n 0, 1, 0, 0, 0), (1, .iload_n 1, 1, 0, 0, 0), (2, .invokevirtual 293, 3, 153, 1, 21), (5, .ifCond .eq 16, 3, 0, 0, 0), (8, .aload_n 0, 1, 0, 0, 0), (9, .aload_n 0, 1, 0, 0, 0), (10, .getfield 44, 3, 11, 22, 0), (13, .iload_n 1, 1, 0, 0, 0), (14, .iaload, 1, 0, 0, 0), (15, .invokevirtual 122, 3, 115, 1, 21), (18, .goto 8, 3, 0, 0, 0), (21, .aload_n 0, 1, 0, 0, 0), (22, .iconst 1, 1, 0, 0, 0), (23, .invokevirtual 118, 3, 98, 1, 21), (26, .ireturn, 1, 0, 0, 0)]
noncomputable def ij_t155 : List (Nat × ij_E) := [(0, .aload_n 0, 1, 0, 0, 0), (1, .getfield 41, 3, 4, 4, 0), (4, .iload_n 1, 1, 0, 0, 0), (5, .invokestatic 77, 3, 74, 2, 1), (8, .ireturn, 1, 0, 0, 0)]
noncomputable def ij_t156 : List (Nat × ij_E) := [(0, .aload_n 0, 1, 0, 0, 0), (1, .getfield 53, 3, 10, 7, 0), (4, .getfield 285, 3, 4, 4, 0), (7, .iload_n 1, 1, 0, 0, 0), (8, .invokestatic 415, 3, 6, 1, 1), (11, .lconst 1, 1, 0, 0, 0), (12, .lsub, 1, 0, 0, 0), (13, .land, 1, 0, 0, 0), (14, .invokestatic 220, 3, 88, 1, 1), (17, .ireturn, 1, 0, 0, 0)]
noncomputable def ij_t157 : List (Nat × ij_E) := [(0, .aload_n 0, 1, 0, 0, 0), (1, .getfield 53, 3, 10, 7, 0), (4, .iload_n 1, 1, 0, 0, 0), (5, .invokevirtual 241, 3, 77, 1, 14), (8, .ifCond .ne 9, 3, 0, 0, 0), (11, .aload_n 0, 1, 0, 0, 0), (12, .iconst 1, 1, 0, 0, 0), (13, .invokevirtual 139, 3, 44, 1, 20), (16, .ireturn, 1, 0, 0, 0), (17, .aload_n 0, 1, 0, 0, 0), (18, .getfield 53, 3, 10, 7, 0), (21, .iload_n 1, 1, 0, 0, 0), (22, .invokevirtual 244, 3, 155, 1, 14), (25, .ifCond .eq 15, 3, 0, 0, 0), (28, .aload_n 0, 1, 0, 0, 0), (29, .aload_n 0, 1, 0, 0, 0), (30, .iload_n 1, 1, 0, 0, 0), (31, .invokevirtual 247, 3, 156, 1, 20), (34, .invokevirtual 191, 3, 90, 1, 20), (37, .goto 9, 3, 0, 0, 0), (40, .aload_n 0, 1, 0, 0, 0), (41, .bipush 6, 2, 0, 0, 0), (43, .invokevirtual 139, 3, 44, 1, 20), (46, .ireturn, 1, 0, 0, 0)]
noncomputable def ij_t158 : List (Nat × ij_E) := [(0, .iload_n 1, 1, 0, 0, 0), (1, .ifCond .lt 17, 3, 0, 0, 0), (4, .iload_n 1, 1, 0, 0, 0), (5, .aload_n 0, 1, 0, 0, 0), (6, .getfield 7, 3, 11, 0, 0), (9, .iconst 1, 1, 0, 0, 0), (10, .iaload, 1, 0, 0, 0), (11, .if_icmp .ge 7, 3, 0, 0, 0), (14, .iconst 1, 1, 0, 0, 0), (15, .goto 4, 3, 0, 0, 0), (18, .iconst 0, 1, 0, 0, 0), (19, .ireturn, 1, 0, 0, 0)]
noncomputable def ij_t159 : List (Nat × ij_E) := [(0, .iload_n 1, 1, 0, 0, 0), (1, .iconst (-1), 1, 0, 0, 0), (2, .if_icmp .ne 10, 3, 0, 0, 0), (5, .aload_n 0, 1, 0, 0, 0), (6, .bipush 6, 2, 0, 0, 0), (8, .invokevirtual 118, 3, 98, 1, 21), (11, .ireturn, 1, 0, 0, 0), (12, .aload_n 0, 1, 0, 0, 0), (13, .iload_n 1, 1, 0, 0, 0), (14, .invokevirtual 122, 3, 115, 1, 21), (17, .ireturn, 1, 0, 0, 0)]
noncomputable def ij_t160 : List (Nat × ij_E) := [(0, .aload_n 0, 1, 0, 0, 0), (1, .iload_n 1, 1, 0, 0, 0), (2, .invokevirtual 296, 3, 158, 1, 21), (5, .ifCond .ne 9, 3, 0, 0, 0), (8, .aload_n 0, 1, 0, 0, 0), (9, .iconst 1, 1, 0, 0, 0), (10, .invokevirtual 118, 3, 98, 1, 21), (13, .ireturn, 1, 0, 0, 0), (14, .aload_n 0, 1, 0, 0, 0), (15, .invokevirtual 242, 3, 114, 0, 21), (18, .aload_n 0, 1, 0, 0, 0), (19, .aload_n 0, 1, 0, 0, 0), (20, .getfield 50, 3, 11, 24, 0), (23, .iload_n 1, 1, 0, 0, 0), (24, .iaload, 1, 0, 0, 0), (25, .invokevirtual 299, 3, 159, 1, 21), (28, .ireturn, 1, 0, 0, 0)]
noncomputable def ij_t161 : List (Nat × ij_E) := [(0, .aload_n 0, 1, 0, 0, 0), (1, .iload_n 1, 1, 0, 0, 0), (2, .invokevirtual 235, 3, 151, 1, 20), (5, .ifCond .eq 19, 3, 0, 0, 0), (8, .aload_n 0, 1, 0, 0, 0), (9, .aload_n 0, 1, 0, 0, 0), (10, .invokevirtual 212, 3, 137, 0, 20), (13, .iload_n 1, 1, 0, 0, 0), (14, .iconst 1, 1, 0, 0, 0), (15, .invokevirtual 250, 3, 140, 2, 13), (18, .invokevirtual 191, 3, 90, 1, 20), (21, .goto 8, 3, 0, 0, 0), (24, .aload_n 0, 1, 0, 0, 0), (25, .iconst 1, 1, 0, 0, 0), (26, .invokevirtual 139, 3, 44, 1, 20), (29, .ireturn, 1, 0, 0, 0)]
noncomputable def ij_t162 : List (Nat × ij_E) := [(0, .aload_n 0, 1, 0, 0, 0), (1, .iload_n 1, 1, 0, 0, 0), (2, .invokevirtual 293, 3, 153, 1, 21), (5, .ifCond .eq 16, 3, 0, 0, 0), (8, .aload_n 0, 1, 0, 0, 0), (9, .aload_n 0, 1, 0, 0, 0), (10, .getfield 47, 3, 11, 23, 0), (13, .iload_n 1, 1, 0, 0, 0), (14, .iaload, 1, 0, 0, 0), (15, .invokevirtual 122, 3, 115, 1, 21), (18, .goto 8, 3, 0, 0, 0), (21, .aload_n 0, 1, 0, 0, 0), (22, .iconst 1, 1, 0, 0, 0), (23, .invokevirtual 118, 3, 98, 1, 21), (26, .ireturn, 1, 0, 0, 0)]
noncomputable def ij_t163 : List (Nat × ij_E) := [(0, .aload_n 0, 1, 0, 0, 0), (1, .iload_n 1, 1, 0, 0, 0), (2, .invokevirtual 235, 3, 151, 1, 20), (5, .ifCond .eq 13, 3, 0, 0, 0), (8, .iload_n 2, 1, 0, 0, 0), (9, .ifCond .lt 9, 3, 0, 0, 0), (12, .iload_n 2, 1, 0, 0, 0), (13, .bipush 24, 2, 0, 0, 0), (15, .if_icmp .le 9, 3, 0, 0, 0), (18, .aload_n 0, 1, 0, 0, 0), (19, .iconst 1, 1, 0, 0, 0), (20, .invokevirtual 139, 3, 44, 1, 20), (23, .ireturn, 1, 0, 0, 0), (24, .aload_n 0, 1, 0, 0, 0), (25, .aload_n 0, 1, 0, 0, 0), (26, .invokevirtual 212, 3, 137, 0, 20), (29, .iload_n 1, 1, 0, 0, 0), (30, .iload_n 2, 1, 0, 0, 0), (31, .invokevirtual 250, 3, 140, 2, 13), (34, .invokevirtual 191, 3, 90, 1, 20), (37, .ireturn, 1, 0, 0, 0)]
noncomputable def ij_t164 : List (Nat × ij_E) := [(0, .iconst 0, 1, 0, 0, 0), (1, .istore_n 3, 1, 0, 0, 0), (2, .iconst 0, 1, 0, 0, 0), (3, .istore 4, 2, 0, 0, 0), (5, .iload 4, 2, 0, 0, 0), (7, .iload_n 2, 1, 0, 0, 0), (8, .if_icmp .ge 26, 3, 0, 0, 0), (11, .iload_n 3, 1, 0, 0, 0), (12, .aload_n 0, 1, 0, 0, 0), (13, .getfield 47, 3, 11, 23, 0), (16, .iload_n 1, 1, 0, 0, 0), (17, .iload 4, 2, 0, 0, 0), (19, .iadd, 1, 0, 0, 0), (20, .aload_n 0, 1, 0, 0, 0), (21, .getfield 245, 3, 11, 26, 0), (24, .irem, 1, 0, 0, 0), (25, .iaload, 1, 0, 0, 0), (26, .iadd, 1, 0, 0, 0), (27, .istore_n 3, 1, 0, 0, 0), (28, .iinc 4 1, 3, 0, 0, 0), (31, .goto (-26), 3, 0, 0, 0), (34, .iload_n 3, 1, 0, 0, 0), (35, .ireturn, 1, 0, 0, 0)]
noncomputable def ij_t165 : List (Nat × ij_E) := [(0, .aload_n 0, 1, 0, 0, 0), (1, .iload_n 1, 1, 0, 0, 0), (2, .invokevirtual 293, 3, 153, 1, 21), (5, .ifCond .eq 28, 3, 0, 0, 0), (8, .iload_n 2, 1, 0, 0, 0), (9, .i2l, 1, 0, 0, 0), (10, .lconst 0, 1, 0, 0, 0), (11, .ldc2_w 302, 3, 0, 24, 0), (14, .invokestatic 289, 3, 149, 3, 1), (17, .ifCond .eq 16, 3, 0, 0, 0), (20, .aload_n 0, 1, 0, 0, 0), (21, .aload_n 0, 1, 0, 0, 0), (22, .iload_n 1, 1, 0, 0, 0), (23, .iload_n 2, 1, 0, 0, 0), (24, .invokevirtual 304, 3, 164, 2, 21), (27, .invokevirtual 122, 3, 115, 1, 21), (30, .goto 8, 3, 0, 0, 0), (33, .aload_n 0, 1, 0, 0, 0), (34, .iconst 1, 1, 0, 0, 0), (35, .invokevirtual 118, 3, 98, 1, 21), (38, .ireturn, 1, 0, 0, 0)]
noncomputable def ij_t166 : List (Nat × ij_E) := [(0, .iload_n 2, 1, 0, 0, 0), (1, .ifCond .ge 5, 3, 0, 0, 0), (4, .iconst (-1), 1, 0, 0, 0), (5, .ireturn, 1, 0, 0, 0), (6, .iload_n 2, 1, 0, 0, 0), (7, .istore_n 3, 1, 0, 0, 0), (8, .iconst 0, 1, 0, 0, 0), (9, .istore 4, 2, 0, 0, 0), (11, .iload 4, 2, 0, 0, 0), (13, .bipush 64, 2, 0, 0, 0), (15, .if_icmp .ge 28, 3, 0, 0, 0), (18, .lload_n 0, 1, 0, 0, 0), (19, .iload 4, 2, 0, 0, 0), (21, .invokestatic 15, 3, 74, 2, 1), (24, .ifCond .eq 13, 3, 0, 0, 0), (27, .iload_n 3, 1, 0, 0, 0), (28, .ifCond .ne 6, 3, 0, 0, 0), (31, .iload 4, 2, 0, 0, 0), (33, .ireturn, 1, 0, 0, 0), (34, .iinc 3 (-1), 3, 0, 0, 0), (37, .iinc 4 1, 3, 0, 0, 0), (40, .goto (-29), 3, 0, 0, 0), (43, .iconst (-1), 1, 0, 0, 0), (44, .ireturn, 1, 0, 0, 0)]
noncomputable def ij_t167 : List (Nat × ij_E) := [(0, .iload_n 1, 1, 0, 0, 0), (1, .iconst (-1), 1, 0, 0, 0), (2, .if_icmp .ne 12, 3, 0, 0, 0), (5, .aload_n 0, 1, 0, 0, 0), (6, .bipush 6, 2, 0, 0, 0), (8, .invokevirtual 139, 3, 44, 1, 20), (11, .goto 8, 3, 0, 0, 0), (14, .aload_n 0, 1, 0, 0, 0), (15, .iload_n 1, 1, 0, 0, 0), (16, .invokevirtual 191, 3, 90, 1, 20), (19, .ireturn, 1, 0, 0, 0)]
noncomputable def ij_t168 : List (Nat × ij_E) := [(0, .aload_n 0, 1, 0, 0, 0), (1, .aload_n 0, 1, 0, 0, 0), (2, .invokevirtual 212, 3, 137, 0, 20), (5, .invokevirtual 216, 3, 141, 0, 13), (8, .iload_n 1, 1, 0, 0, 0), (9, .invokestatic 254, 3, 166, 2, 1), (12, .invokevirtual 260, 3, 167, 1, 20), (15, .ireturn, 1, 0, 0, 0)]
noncomputable def ij_t169 : List (Nat × ij_E) := [(0, .aload_n 0, 1, 0, 0, 0), (1, .invokevirtual 242, 3, 114, 0, 21), (4, .iload_n 1, 1, 0, 0, 0), (5, .ifCond .lt 15, 3, 0, 0, 0), (8, .iload_n 1, 1, 0, 0, 0), (9, .aload_n 0, 1, 0, 0, 0), (10, .getfield 269, 3, 11, 27, 0), (13, .if_icmp .ge 7, 3, 0, 0, 0), (16, .iconst 1, 1, 0, 0, 0), (17, .goto 4, 3, 0, 0, 0), (20, .iconst 0, 1, 0, 0, 0), (21, .ireturn, 1, 0, 0, 0)]
noncomputable def ij_t170 : List (Nat × ij_E) := [(0, .aload_n 0, 1, 0, 0, 0), (1, .iload_n 1, 1, 0, 0, 0), (2, .invokevirtual 307, 3, 169, 1, 21), (5, .ifCond .eq 16, 3, 0, 0, 0), (8, .aload_n 0, 1, 0, 0, 0), (9, .aload_n 0, 1, 0, 0, 0), (10, .getfield 53, 3, 11, 25, 0), (13, .iload_n 1, 1, 0, 0, 0), (14, .iaload, 1, 0, 0, 0), (15, .invokevirtual 122, 3, 115, 1, 21), (18, .goto 9, 3, 0, 0, 0), (21, .aload_n 0, 1, 0, 0, 0), (22, .bipush 6, 2, 0, 0, 0), (24, .invokevirtual 118, 3, 98, 1, 21), (27, .ireturn, 1, 0, 0, 0)]
noncomputable def ij_t171 : List (Nat × ij_E) := [(0, .iconst 0, 1, 0, 0, 0), (1, .istore_n 2, 1, 0, 0, 0), (2, .iconst 0, 1, 0, 0, 0), (3, .istore_n 3, 1, 0, 0, 0), (4, .iload_n 3, 1, 0, 0, 0), (5, .aload_n 0, 1, 0, 0, 0), (6, .getfield 23, 3, 3, 3, 0), (9, .if_icmp .ge 27, 3, 0, 0, 0), (12, .iload_n 2, 1, 0, 0, 0), (13, .aload_n 0, 1, 0, 0, 0), (14, .iload_n 3, 1, 0, 0, 0), (15, .iconst 1, 1, 0, 0, 0), (16, .invokevirtual 50, 3, 140, 2, 13), (19, .iload_n 1, 1, 0, 0, 0), (20, .if_icmp .ne 7, 3, 0, 0, 0), (23, .iconst 1, 1, 0, 0, 0), (24, .goto 4, 3, 0, 0, 0), (27, .iconst 0, 1, 0, 0, 0), (28, .iadd, 1, 0, 0, 0), (29, .istore_n 2, 1, 0, 0, 0), (30, .iinc 3 1, 3, 0, 0, 0), (33, .goto (-29), 3, 0, 0, 0), (36, .iload_n 2, 1, 0, 0, 0), (37, .ireturn, 1, 0, 0, 0)]
noncomputable def ij_t172 : List (Nat × ij_E) := [(0, .aload_n 0, 1, 0, 0, 0), (1, .invokevirtual 212, 3, 137, 0, 20), (4, .invokevirtual 216, 3, 141, 0, 13), (7, .iload_n 1, 1, 0, 0, 0), (8, .invokestatic 254, 3, 166, 2, 1), (11, .istore_n 2, 1, 0, 0, 0), (12, .iload_n 2, 1, 0, 0, 0), (13, .iconst (-1), 1, 0, 0, 0), (14, .if_icmp .ne 12, 3, 0, 0, 0), (17, .aload_n 0, 1, 0, 0, 0), (18, .bipush 6, 2, 0, 0, 0), (20, .invokevirtual 139, 3, 44, 1, 20), (23, .goto 15, 3, 0, 0, 0), (26, .aload_n 0, 1, 0, 0, 0), (27, .aload_n 0, 1, 0, 0, 0), (28, .getfield 67, 3, 10, 9, 0), (31, .iload_n 2, 1, 0, 0, 0), (32, .invokevirtual 263, 3, 171, 1, 13), (35, .invokevirtual 191, 3, 90, 1, 20), (38, .ireturn, 1, 0, 0, 0)]
noncomputable def ij_t173 : List (Nat × ij_E) := [(0, .iconst 0, 1, 0, 0, 0), (1, .istore_n 2, 1, 0, 0, 0), (2, .iconst 0, 1, 0, 0, 0), (3, .istore_n 3, 1, 0, 0, 0), (4, .iload_n 3, 1, 0, 0, 0), (5, .aload_n 0, 1, 0, 0, 0), (6, .getfield 245, 3, 11, 26, 0), (9, .if_icmp .ge 32, 3, 0, 0, 0), (12, .iload_n 2, 1, 0, 0, 0), (13, .aload_n 0, 1, 0, 0, 0), (14, .getfield 47, 3, 11, 23, 0), (17, .iload_n 3, 1, 0, 0, 0), (18, .iaload, 1, 0, 0, 0), (19, .aload_n 0, 1, 0, 0, 0), (20, .getfield 53, 3, 11, 25, 0), (23, .iload_n 1, 1, 0, 0, 0), (24, .iaload, 1, 0, 0, 0), (25, .if_icmp .ne 7, 3, 0, 0, 0), (28, .iconst 1, 1, 0, 0, 0), (29, .goto 4, 3, 0, 0, 0), (32, .iconst 0, 1, 0, 0, 0), (33, .iadd, 1, 0, 0, 0), (34, .istore_n 2, 1, 0, 0, 0), (35, .iinc 3 1, 3, 0, 0, 0), (38, .goto (-34), 3, 0, 0, 0), (41, .iload_n 2, 1, 0, 0, 0), (42, .ireturn, 1, 0, 0, 0)]
noncomputable def ij_t174 : List (Nat × ij_E) := [(0, .aload_n 0, 1, 0, 0, 0), (1, .iload_n 1, 1, 0, 0, 0), (2, .invokevirtual 307, 3, 169, 1, 21), (5, .ifCond .eq 15, 3, 0, 0, 0), (8, .aload_n 0, 1, 0, 0, 0), (9, .aload_n 0, 1, 0, 0, 0), (10, .iload_n 1, 1, 0, 0, 0), (11, .invokevirtual 310, 3, 173, 1, 21), (14, .invokevirtual 122, 3, 115, 1, 21), (17, .goto 9, 3, 0, 0, 0), (20, .aload_n 0, 1, 0, 0, 0), (21, .bipush 6, 2, 0, 0, 0), (23, .invokevirtual 118, 3, 98, 1, 21), (26, .ireturn, 1, 0, 0, 0)]
noncomputable def ij_t175 : List (Nat × ij_E) := [(0, .iload_n 0, 1, 0, 0, 0), (1, .ifCond .lt 30, 3, 0, 0, 0), (4, .iload_n 0, 1, 0, 0, 0), (5, .bipush 9, 2, 0, 0, 0), (7, .if_icmp .ge 24, 3, 0, 0, 0), (10, .iload_n 1, 1, 0, 0, 0), (11, .iload_n 0, 1, 0, 0, 0), (12, .invokestatic 396, 3, 79, 1, 1), (15, .if_icmp .lt 16, 3, 0, 0, 0), (18, .iload_n 1, 1, 0, 0, 0), (19, .iload_n 0, 1, 0, 0, 0), (20, .iload_n 2, 1, 0, 0, 0), (21, .invokestatic 399, 3, 81, 2, 1), (24, .if_icmp .gt 7, 3, 0, 0, 0), (27, .iconst 1, 1, 0, 0, 0), (28, .goto 4, 3, 0, 0, 0), (31, .iconst 0, 1, 0, 0, 0), (32, .ireturn, 1, 0, 0, 0)]
noncomputable def ij_t176 : List (Nat × ij_E) := [(0, .iload_n 1, 1, 0, 0, 0), (1, .iload_n 2, 1, 0, 0, 0), (2, .aload_n 0, 1, 0, 0, 0), (3, .getfield 53, 3, 10, 7, 0), (6, .invokevirtual 266, 3, 80, 0, 14), (9, .invokestatic 269, 3, 175, 3, 1), (12, .ifCond .ne 9, 3, 0, 0, 0), (15, .aload_n 0, 1, 0, 0, 0), (16, .iconst 1, 1, 0, 0, 0), (17, .invokevirtual 139, 3, 44, 1, 20), (20, .ireturn, 1, 0, 0, 0), (21, .aload_n 0, 1, 0, 0, 0), (22, .getfield 53, 3, 10, 7, 0), (25, .iload_n 1, 1, 0, 0, 0), (26, .invokevirtual 209, 3, 135, 1, 14), (29, .iload_n 2, 1, 0, 0, 0), (30, .if_icmp .ne 10, 3, 0, 0, 0), (33, .aload_n 0, 1, 0, 0, 0), (34, .bipush 7, 2, 0, 0, 0), (36, .invokevirtual 139, 3, 44, 1, 20), (39, .ireturn, 1, 0, 0, 0), (40, .aload_n 0, 1, 0, 0, 0), (41, .getfield 53, 3, 10, 7, 0), (44, .iload_n 1, 1, 0, 0, 0), (45, .iload_n 2, 1, 0, 0, 0), (46, .invokevirtual 273, 3, 83, 2, 14), (49, .aload_n 0, 1, 0, 0, 0), (50, .getfield 53, 3, 10, 7, 0), (53, .invokevirtual 276, 3, 9, 0, 14), (56, .aload_n 0, 1, 0, 0, 0), (57, .aload_n 0, 1, 0, 0, 0), (58, .getfield 53, 3, 10, 7, 0), (61, .invokevirtual 187, 3, 89, 0, 14), (64, .invokevirtual 191, 3, 90, 1, 20), (67, .ireturn, 1, 0, 0, 0)]
noncomputable def ij_t177 : List (Nat × ij_E) := [(0, .iload_n 1, 1, 0, 0, 0), (1, .ifCond .lt 33, 3, 0, 0, 0), (4, .iload_n 1, 1, 0, 0, 0), (5, .bipush 8, 2, 0, 0, 0), (7, .if_icmp .gt 27, 3, 0, 0, 0), (10, .iload_n 2, 1, 0, 0, 0), (11, .i2l, 1, 0, 0, 0), (12, .iload_n 1, 1, 0, 0, 0), (13, .invokestatic 224, 3, 106, 1, 1), (16, .i2l, 1, 0, 0, 0), (17, .iload_n 1, 1, 0, 0, 0), (18, .aload_n 0, 1, 0, 0, 0), (19, .getfield 7, 3, 11, 0, 0), (22, .iconst 1, 1, 0, 0, 0), (23, .iaload, 1, 0, 0, 0), (24, .invokestatic 227, 3, 107, 2, 1), (27, .i2l, 1, 0, 0, 0), (28, .invokestatic 289, 3, 149, 3, 1), (31, .ifCond .ne 9, 3, 0, 0, 0), (34, .aload_n 0, 1, 0, 0, 0), (35, .iconst 1, 1, 0, 0, 0), (36, .invokevirtual 118, 3, 98, 1, 21), (39, .ireturn, 1, 0, 0, 0), (40, .aload_n 0, 1, 0, 0, 0), (41, .getfield 7, 3, 11, 0, 0), (44, .iload_n 1, 1, 0, 0, 0), (45, .iaload, 1, 0, 0, 0), (46, .iload_n 2, 1, 0, 0, 0), (47, .if_icmp .ne 10, 3, 0, 0, 0), (50, .aload_n 0, 1, 0, 0, 0), (51, .bipush 7, 2, 0, 0, 0), (53, .invokevirtual 118, 3, 98, 1, 21), (56, .ireturn, 1, 0, 0, 0), (57, .aload_n 0, 1, 0, 0, 0), (58, .getfield 7, 3, 11, 0, 0), (61, .iload_n 1, 1, 0, 0, 0), (62, .iload_n 2, 1, 0, 0, 0), (63, .iastore, 1, 0, 0, 0), (64, .aload_n 0, 1, 0, 0, 0), (65, .iconst 0, 1, 0, 0, 0), (66, .invokevirtual 239, 3, 110, 1, 21), (69, .aload_n 0, 1, 0, 0, 0), (70, .getfield 7, 3, 11, 0, 0), (73, .iconst 1, 1, 0, 0, 0), (74, .iaload, 1, 0, 0, 0), (75, .istore_n 3, 1, 0, 0, 0), (76, .iload_n 3, 1, 0, 0, 0), (77, .bipush 60, 2, 0, 0, 0), (79, .if_icmp .ge 19, 3, 0, 0, 0), (82, .aload_n 0, 1, 0, 0, 0), (83, .getfield 7, 3, 11, 0, 0), (86, .bipush 20, 2, 0, 0, 0), (88, .iload_n 3, 1, 0, 0, 0), (89, .iadd, 1, 0, 0, 0), (90, .iconst 0, 1, 0, 0, 0), (91, .iastore, 1, 0, 0, 0), (92, .iinc 3 1, 3, 0, 0, 0), (95, .goto (-19), 3, 0, 0, 0), (98, .aload_n 0, 1, 0, 0, 0), (99, .invokevirtual 242, 3, 114, 0, 21), (102, .aload_n 0, 1, 0, 0, 0), (103, .aload_n 0, 1, 0, 0, 0), (104, .getfield 245, 3, 11, 26, 0), (107, .invokevirtual 122, 3, 115, 1, 21), (110, .ireturn, 1, 0, 0, 0)]
noncomputable def ij_t178 : List (Nat × ij_E) := [(0, .aload_n 0, 1, 0, 0, 0), (1, .iload_n 1, 1, 0, 0, 0), (2, .invokevirtual 84, 3, 77, 1, 14), (5, .ifCond .eq 14, 3, 0, 0, 0), (8, .aload_n 0, 1, 0, 0, 0), (9, .getfield 37, 3, 4, 3, 0), (12, .iload_n 1, 1, 0, 0, 0), (13, .invokestatic 77, 3, 74, 2, 1), (16, .ifCond .eq 5, 3, 0, 0, 0), (19, .iconst 0, 1, 0, 0, 0), (20, .ireturn, 1, 0, 0, 0), (21, .aload_n 0, 1, 0, 0, 0), (22, .dup, 1, 0, 0, 0), (23, .getfield 37, 3, 4, 3, 0), (26, .iload_n 1, 1, 0, 0, 0), (27, .invokestatic 68, 3, 6, 1, 1), (30, .lor, 1, 0, 0, 0), (31, .putfield 37, 3, 4, 3, 0), (34, .aload_n 0, 1, 0, 0, 0), (35, .getfield 15, 3, 4, 1, 0), (38, .iconst 0, 1, 0, 0, 0), (39, .aload_n 0, 1, 0, 0, 0), (40, .getfield 15, 3, 4, 1, 0), (43, .iconst 1, 1, 0, 0, 0), (44, .bipush 11, 2, 0, 0, 0), (46, .invokestatic 27, 3, 999998, 0, 6), (49, .aload_n 0, 1, 0, 0, 0), (50, .getfield 15, 3, 4, 1, 0), (53, .iconst 0, 1, 0, 0, 0), (54, .iload_n 1, 1, 0, 0, 0), (55, .iastore, 1, 0, 0, 0), (56, .aload_n 0, 1, 0, 0, 0), (57, .aload_n 0, 1, 0, 0, 0), (58, .getfield 33, 3, 4, 2, 0), (61, .iconst 1, 1, 0, 0, 0), (62, .iadd, 1, 0, 0, 0), (63, .bipush 12, 2, 0, 0, 0), (65, .invokestatic 87, 3, 95, 2, 1), (68, .putfield 33, 3, 4, 2, 0), (71, .iconst 1, 1, 0, 0, 0), (72, .ireturn, 1, 0, 0, 0)]
noncomputable def ij_t179 : List (Nat × ij_E) := [(0, .aload_n 0, 1, 0, 0, 0), (1, .getfield 53, 3, 10, 7, 0), (4, .iload_n 1, 1, 0, 0, 0), (5, .invokevirtual 241, 3, 77, 1, 14), (8, .ifCond .ne 9, 3, 0, 0, 0), (11, .aload_n 0, 1, 0, 0, 0), (12, .iconst 1, 1, 0, 0, 0), (13, .invokevirtual 139, 3, 44, 1, 20), (16, .ireturn, 1, 0, 0, 0), (17, .aload_n 0, 1, 0, 0, 0), (18, .getfield 53, 3, 10, 7, 0), (21, .iload_n 1, 1, 0, 0, 0), (22, .invokevirtual 279, 3, 178, 1, 14), (25, .ifCond .eq 20, 3, 0, 0, 0), (28, .aload_n 0, 1, 0, 0, 0), (29, .aload_n 0, 1, 0, 0, 0), (30, .getfield 53, 3, 10, 7, 0), (33, .getfield 226, 3, 4, 3, 0), (36, .invokestatic 220, 3, 88, 1, 1), (39, .invokevirtual 191, 3, 90, 1, 20), (42, .goto 9, 3, 0, 0, 0), (45, .aload_n 0, 1, 0, 0, 0), (46, .bipush 7, 2, 0, 0, 0), (48, .invokevirtual 139, 3, 44, 1, 20), (51, .ireturn, 1, 0, 0, 0)]
noncomputable def ij_t180 : List (Nat × ij_E) := [(0, .aload_n 0, 1, 0, 0, 0), (1, .iload_n 1, 1, 0, 0, 0), (2, .invokevirtual 296, 3, 158, 1, 21), (5, .ifCond .eq 12, 3, 0, 0, 0), (8, .aload_n 0, 1, 0, 0, 0), (9, .iload_n 1, 1, 0, 0, 0), (10, .invokevirtual 279, 3, 143, 1, 21), (13, .iconst 1, 1, 0, 0, 0), (14, .if_icmp .ne 5, 3, 0, 0, 0), (17, .iconst 0, 1, 0, 0, 0), (18, .ireturn, 1, 0, 0, 0), (19, .aload_n 0, 1, 0, 0, 0), (20, .getfield 7, 3, 11, 0, 0), (23, .bipush 20, 2, 0, 0, 0), (25, .iload_n 1, 1, 0, 0, 0), (26, .iadd, 1, 0, 0, 0), (27, .iconst 1, 1, 0, 0, 0), (28, .iastore, 1, 0, 0, 0), (29, .bipush 11, 2, 0, 0, 0), (31, .istore_n 2, 1, 0, 0, 0), (32, .iload_n 2, 1, 0, 0, 0), (33, .ifCond .le 29, 3, 0, 0, 0), (36, .aload_n 0, 1, 0, 0, 0), (37, .getfield 7, 3, 11, 0, 0), (40, .bipush 80, 2, 0, 0, 0), (42, .iload_n 2, 1, 0, 0, 0), (43, .iadd, 1, 0, 0, 0), (44, .aload_n 0, 1, 0, 0, 0), (45, .getfield 7, 3, 11, 0, 0), (48, .bipush 80, 2, 0, 0, 0), (50, .iload_n 2, 1, 0, 0, 0), (51, .iadd, 1, 0, 0, 0), (52, .iconst 1, 1, 0, 0, 0), (53, .isub, 1, 0, 0, 0), (54, .iaload, 1, 0, 0, 0), (55, .iastore, 1, 0, 0, 0), (56, .iinc 2 (-1), 3, 0, 0, 0), (59, .goto (-27), 3, 0, 0, 0), (62, .aload_n 0, 1, 0, 0, 0), (63, .getfield 7, 3, 11, 0, 0), (66, .bipush 80, 2, 0, 0, 0), (68, .iload_n 1, 1, 0, 0, 0), (69, .iastore, 1, 0, 0, 0), (70, .aload_n 0, 1, 0, 0, 0), (71, .getfield 7, 3, 11, 0, 0), (74, .bipush 9, 2, 0, 0, 0), (76, .bipush 12, 2, 0, 0, 0), (78, .aload_n 0, 1, 0, 0, 0), (79, .getfield 7, 3, 11, 0, 0), (82, .bipush 9, 2, 0, 0, 0), (84, .iaload, 1, 0, 0, 0), (85, .iconst 1, 1, 0, 0, 0), (86, .iadd, 1, 0, 0, 0), (87, .invokestatic 173, 3, 95, 2, 1), (90, .iastore, 1, 0, 0, 0), (91, .iconst 1, 1, 0, 0, 0), (92, .ireturn, 1, 0, 0, 0)]
noncomputable def ij_t181 : List (Nat × ij_E) := [(0, .aload_n 0, 1, 0, 0, 0), (1, .iload_n 1, 1, 0, 0, 0), (2, .invokevirtual 296, 3, 158, 1, 21), (5, .ifCond .ne 9, 3, 0, 0, 0), (8, .aload_n 0, 1, 0, 0, 0), (9, .iconst 1, 1, 0, 0, 0), (10, .invokevirtual 118, 3, 98, 1, 21), (13, .ireturn, 1, 0, 0, 0), (14, .aload_n 0, 1, 0, 0, 0), (15, .iload_n 1, 1, 0, 0, 0), (16, .invokevirtual 313, 3, 180, 1, 21), (19, .ifCond .eq 14, 3, 0, 0, 0), (22, .aload_n 0, 1, 0, 0, 0), (23, .aload_n 0, 1, 0, 0, 0), (24, .invokevirtual 282, 3, 144, 0, 21), (27, .invokevirtual 122, 3, 115, 1, 21), (30, .goto 9, 3, 0, 0, 0), (33, .aload_n 0, 1, 0, 0, 0), (34, .bipush 7, 2, 0, 0, 0), (36, .invokevirtual 118, 3, 98, 1, 21), (39, .ireturn, 1, 0, 0, 0)]
noncomputable def ij_t182 : List (Nat × ij_E) := [(0, .aload_n 0, 1, 0, 0, 0), (1, .getfield 37, 3, 4, 3, 0), (4, .iload_n 1, 1, 0, 0, 0), (5, .invokestatic 77, 3, 74, 2, 1), (8, .ifCond .ne 5, 3, 0, 0, 0), (11, .iconst 0, 1, 0, 0, 0), (12, .ireturn, 1, 0, 0, 0), (13, .aload_n 0, 1, 0, 0, 0), (14, .dup, 1, 0, 0, 0), (15, .getfield 37, 3, 4, 3, 0), (18, .iload_n 1, 1, 0, 0, 0), (19, .invokestatic 68, 3, 6, 1, 1), (22, .ldc2_w 90, 3, 0, 18446744073709551615, 0), (25, .lxor, 1, 0, 0, 0), (26, .land, 1, 0, 0, 0), (27, .putfield 37, 3, 4, 3, 0), (30, .iconst 1, 1, 0, 0, 0), (31, .ireturn, 1, 0, 0, 0)]
noncomputable def ij_t183 : List (Nat × ij_E) := [(0, .aload_n 0, 1, 0, 0, 0), (1, .getfield 53, 3, 10, 7, 0), (4, .iload_n 1, 1, 0, 0, 0), (5, .invokevirtual 241, 3, 77, 1, 14), (8, .ifCond .ne 9, 3, 0, 0, 0), (11, .aload_n 0, 1, 0, 0, 0), (12, .iconst 1, 1, 0, 0, 0), (13, .invokevirtual 139, 3, 44, 1, 20), (16, .ireturn, 1, 0, 0, 0), (17, .aload_n 0, 1, 0, 0, 0), (18, .getfield 53, 3, 10, 7, 0), (21, .iload_n 1, 1, 0, 0, 0), (22, .invokevirtual 282, 3, 182, 1, 14), (25, .ifCond .eq 20, 3, 0, 0, 0), (28, .aload_n 0, 1, 0, 0, 0), (29, .aload_n 0, 1, 0, 0, 0), (30, .getfield 53, 3, 10, 7, 0), (33, .getfield 226, 3, 4, 3, 0), (36, .invokestatic 220, 3, 88, 1, 1), (39, .invokevirtual 191, 3, 90, 1, 20), (42, .goto 9, 3, 0, 0, 0), (45, .aload_n 0, 1, 0, 0, 0), (46, .bipush 7, 2, 0, 0, 0), (48, .invokevirtual 139, 3, 44, 1, 20), (51, .ireturn, 1, 0, 0, 0)]
noncomputable def ij_t184 : List (Nat × ij_E) := [(0, .aload_n 0, 1, 0, 0, 0), (1, .iload_n 1, 1, 0, 0, 0), (2, .invokevirtual 296, 3, 158, 1, 21), (5, .ifCond .eq 11, 3, 0, 0, 0), (8, .aload_n 0, 1, 0, 0, 0), (9, .iload_n 1, 1, 0, 0, 0), (10, .invokevirtual 279, 3, 143, 1, 21), (13, .ifCond .ne 5, 3, 0, 0, 0), (16, .iconst 0, 1, 0, 0, 0), (17, .ireturn, 1, 0, 0, 0), (18, .aload_n 0, 1, 0, 0, 0), (19, .getfield 7, 3, 11, 0, 0), (22, .bipush 20, 2, 0, 0, 0), (24, .iload_n 1, 1, 0, 0, 0), (25, .iadd, 1, 0, 0, 0), (26, .iconst 0, 1, 0, 0, 0), (27, .iastore, 1, 0, 0, 0), (28, .iconst 1, 1, 0, 0, 0), (29, .ireturn, 1, 0, 0, 0)]
noncomputable def ij_t185 : List (Nat × ij_E) := [(0, .aload_n 0, 1, 0, 0, 0), (1, .iload_n 1, 1, 0, 0, 0), (2, .invokevirtual 296, 3, 158, 1, 21), (5, .ifCond .ne 9, 3, 0, 0, 0), (8, .aload_n 0, 1, 0, 0, 0), (9, .iconst 1, 1, 0, 0, 0), (10, .invokevirtual 118, 3, 98, 1, 21), (13, .ireturn, 1, 0, 0, 0), (14, .aload_n 0, 1, 0, 0, 0), (15, .iload_n 1, 1, 0, 0, 0), (16, .invokevirtual 316, 3, 184, 1, 21), (19, .ifCond .eq 14, 3, 0, 0, 0), (22, .aload_n 0, 1, 0, 0, 0), (23, .aload_n 0, 1, 0, 0, 0), (24, .invokevirtual 282, 3, 144, 0, 21), (27, .invokevirtual 122, 3, 115, 1, 21), (30, .goto 9, 3, 0, 0, 0), (33, .aload_n 0, 1, 0, 0, 0), (34, .bipush 7, 2, 0, 0, 0), (36, .invokevirtual 118, 3, 98, 1, 21), (39, .ireturn, 1, 0, 0, 0)]
noncomputable def ij_t186 : List (Nat × ij_E) := [(0, .aload_n 0, 1, 0, 0, 0), (1, .getfield 53, 3, 10, 7, 0), (4, .getfield 226, 3, 4, 3, 0), (7, .invokestatic 220, 3, 88, 1, 1), (10, .istore_n 1, 1, 0, 0, 0), (11, .aload_n 0, 1, 0, 0, 0), (12, .getfield 53, 3, 10, 7, 0), (15, .dup, 1, 0, 0, 0), (16, .getfield 226, 3, 4, 3, 0), (19, .aload_n 0, 1, 0, 0, 0), (20, .getfield 53, 3, 10, 7, 0), (23, .getfield 285, 3, 4, 4, 0), (26, .land, 1, 0, 0, 0), (27, .putfield 226, 3, 4, 3, 0), (30, .aload_n 0, 1, 0, 0, 0), (31, .iload_n 1, 1, 0, 0, 0), (32, .aload_n 0, 1, 0, 0, 0), (33, .getfield 53, 3, 10, 7, 0), (36, .getfield 226, 3, 4, 3, 0), (39, .invokestatic 220, 3, 88, 1, 1), (42, .isub, 1, 0, 0, 0), (43, .invokevirtual 191, 3, 90, 1, 20), (46, .ireturn, 1, 0, 0, 0)]
noncomputable def ij_t187 : List (Nat × ij_E) := [(0, .iconst 0, 1, 0, 0, 0), (1, .istore_n 1, 1, 0, 0, 0), (2, .aload_n 0, 1, 0, 0, 0), (3, .invokevirtual 242, 3, 114, 0, 21), (6, .iconst 0, 1, 0, 0, 0), (7, .istore_n 2, 1, 0, 0, 0), (8, .iload_n 2, 1, 0, 0, 0), (9, .aload_n 0, 1, 0, 0, 0), (10, .getfield 7, 3, 11, 0, 0), (13, .iconst 1, 1, 0, 0, 0), (14, .iaload, 1, 0, 0, 0), (15, .if_icmp .ge 35, 3, 0, 0, 0), (18, .iload_n 1, 1, 0, 0, 0), (19, .aload_n 0, 1, 0, 0, 0), (20, .getfield 50, 3, 11, 24, 0), (23, .iload_n 2, 1, 0, 0, 0), (24, .iaload, 1, 0, 0, 0), (25, .iconst (-1), 1, 0, 0, 0), (26, .if_icmp .ne 15, 3, 0, 0, 0), (29, .aload_n 0, 1, 0, 0, 0), (30, .iload_n 2, 1, 0, 0, 0), (31, .invokevirtual 316, 3, 184, 1, 21), (34, .ifCond .eq 7, 3, 0, 0, 0), (37, .iconst 1, 1, 0, 0, 0), (38, .goto 4, 3, 0, 0, 0), (41, .iconst 0, 1, 0, 0, 0), (42, .iadd, 1, 0, 0, 0), (43, .istore_n 1, 1, 0, 0, 0), (44, .iinc 2 1, 3, 0, 0, 0), (47, .goto (-39), 3, 0, 0, 0), (50, .aload_n 0, 1, 0, 0, 0), (51, .iload_n 1, 1, 0, 0, 0), (52, .invokevirtual 122, 3, 115, 1, 21), (55, .ireturn, 1, 0, 0, 0)]
noncomputable def ij_t188 : List (Nat × ij_E) := [(0, .lload_n 0, 1, 0, 0, 0), (1, .iload_n 2, 1, 0, 0, 0), (2, .lshl, 1, 0, 0, 0), (3, .lload_n 0, 1, 0, 0, 0), (4, .iload_n 3, 1, 0, 0, 0), (5, .iload_n 2, 1, 0, 0, 0), (6, .isub, 1, 0, 0, 0), (7, .lushr, 1, 0, 0, 0), (8, .lor, 1, 0, 0, 0), (9, .iload_n 3, 1, 0, 0, 0), (10, .invokestatic 19, 3, 7, 1, 1), (13, .land, 1, 0, 0, 0), (14, .lreturn, 1, 0, 0, 0)]
noncomputable def ij_t189 : List (Nat × ij_E) := [(0, .aload_n 0, 1, 0, 0, 0), (1, .getfield 37, 3, 4, 3, 0), (4, .aload_n 0, 1, 0, 0, 0), (5, .getfield 41, 3, 4, 4, 0), (8, .land, 1, 0, 0, 0), (9, .invokestatic 71, 3, 88, 1, 1), (12, .ireturn, 1, 0, 0, 0)]
noncomputable def ij_t190 : List (Nat × ij_E) := [(0, .iload_n 1, 1, 0, 0, 0), (1, .ifCond .lt 9, 3, 0, 0, 0), (4, .iload_n 1, 1, 0, 0, 0), (5, .bipush 60, 2, 0, 0, 0), (7, .if_icmp .lt 9, 3, 0, 0, 0), (10, .aload_n 0, 1, 0, 0, 0), (11, .iconst 1, 1, 0, 0, 0), (12, .invokevirtual 139, 3, 44, 1, 20), (15, .ireturn, 1, 0, 0, 0), (16, .aload_n 0, 1, 0, 0, 0), (17, .getfield 53, 3, 10, 7, 0), (20, .aload_n 0, 1, 0, 0, 0), (21, .getfield 53, 3, 10, 7, 0), (24, .getfield 226, 3, 4, 3, 0), (27, .aload_n 0, 1, 0, 0, 0), (28, .getfield 53, 3, 10, 7, 0), (31, .iload_n 1, 1, 0, 0, 0), (32, .invokevirtual 288, 3, 5, 1, 14), (35, .aload_n 0, 1, 0, 0, 0), (36, .getfield 53, 3, 10, 7, 0), (39, .invokevirtual 266, 3, 80, 0, 14), (42, .invokestatic 291, 3, 188, 3, 1), (45, .putfield 226, 3, 4, 3, 0), (48, .aload_n 0, 1, 0, 0, 0), (49, .aload_n 0, 1, 0, 0, 0), (50, .getfield 53, 3, 10, 7, 0), (53, .invokevirtual 295, 3, 189, 0, 14), (56, .invokevirtual 191, 3, 90, 1, 20), (59, .ireturn, 1, 0, 0, 0)]
noncomputable def ij_t191 : List (Nat × ij_E) := [(0, .iconst 0, 1, 0, 0, 0), (1, .istore_n 2, 1, 0, 0, 0), (2, .iload_n 2, 1, 0, 0, 0), (3, .bipush 92, 2, 0, 0, 0), (5, .if_icmp .ge 23, 3, 0, 0, 0), (8, .aload_n 0, 1, 0, 0, 0), (9, .getfield 7, 3, 11, 0, 0), (12, .iload_n 1, 1, 0, 0, 0), (13, .iload_n 2, 1, 0, 0, 0), (14, .iadd, 1, 0, 0, 0), (15, .aload_n 0, 1, 0, 0, 0), (16, .getfield 7, 3, 11, 0, 0), (19, .iload_n 2, 1, 0, 0, 0), (20, .iaload, 1, 0, 0, 0), (21, .iastore, 1, 0, 0, 0), (22, .iinc 2 1, 3, 0, 0, 0), (25, .goto (-23), 3, 0, 0, 0), (28, .return_, 1, 0, 0, 0)]
noncomputable def ij_t192 : List (Nat × ij_E) := [(0, .aload_n 0, 1, 0, 0, 0), (1, .getfield 7, 3, 11, 0, 0), (4, .iconst 5, 1, 0, 0, 0), (5, .iaload, 1, 0, 0, 0), (6, .istore_n 3, 1, 0, 0, 0), (7, .iconst 0, 1, 0, 0, 0), (8, .istore 4, 2, 0, 0, 0), (10, .iload 4, 2, 0, 0, 0), (12, .bipush 60, 2, 0, 0, 0), (14, .if_icmp .ge 17, 3, 0, 0, 0), (17, .aload_n 0, 1, 0, 0, 0), (18, .getfield 56, 3, 11, 30, 0), (21, .iload 4, 2, 0, 0, 0), (23, .iconst 0, 1, 0, 0, 0), (24, .bastore, 1, 0, 0, 0), (25, .iinc 4 1, 3, 0, 0, 0), (28, .goto (-18), 3, 0, 0, 0), (31, .aload_n 0, 1, 0, 0, 0), (32, .getfield 7, 3, 11, 0, 0), (35, .iconst 5, 1, 0, 0, 0), (36, .iload_n 2, 1, 0, 0, 0), (37, .iastore, 1, 0, 0, 0), (38, .iconst 0, 1, 0, 0, 0), (39, .istore 4, 2, 0, 0, 0), (41, .iload 4, 2, 0, 0, 0), (43, .aload_n 0, 1, 0, 0, 0), (44, .getfield 7, 3, 11, 0, 0), (47, .iconst 3, 1, 0, 0, 0), (48, .iaload, 1, 0, 0, 0), (49, .if_icmp .ge 22, 3, 0, 0, 0), (52, .aload_n 0, 1, 0, 0, 0), (53, .getfield 56, 3, 11, 30, 0), (56, .aload_n 0, 1, 0, 0, 0), (57, .iload 4, 2, 0, 0, 0), (59, .iload_n 1, 1, 0, 0, 0), (60, .invokevirtual 272, 3, 112, 2, 21), (63, .iconst 1, 1, 0, 0, 0), (64, .bastore, 1, 0, 0, 0), (65, .iinc 4 1, 3, 0, 0, 0), (68, .goto (-27), 3, 0, 0, 0), (71, .aload_n 0, 1, 0, 0, 0), (72, .getfield 7, 3, 11, 0, 0), (75, .iconst 5, 1, 0, 0, 0), (76, .iload_n 3, 1, 0, 0, 0), (77, .iastore, 1, 0, 0, 0), (78, .return_, 1, 0, 0, 0)]
noncomputable def ij_t193 : List (Nat × ij_E) := [(0, .iconst 0, 1, 0, 0, 0), (1, .istore_n 1, 1, 0, 0, 0), (2, .iconst 0, 1, 0, 0, 0), (3, .istore_n 2, 1, 0, 0, 0), (4, .iload_n 2, 1, 0, 0, 0), (5, .bipush 60, 2, 0, 0, 0), (7, .if_icmp .ge 30, 3, 0, 0, 0), (10, .iload_n 1, 1, 0, 0, 0), (11, .aload_n 0, 1, 0, 0, 0), (12, .getfield 56, 3, 11, 30, 0), (15, .iload_n 2, 1, 0, 0, 0), (16, .baload, 1, 0, 0, 0), (17, .ifCond .eq 11, 3, 0, 0, 0), (20, .aload_n 0, 1, 0, 0, 0), (21, .iload_n 2, 1, 0, 0, 0), (22, .invokevirtual 279, 3, 143, 1, 21), (25, .goto 4, 3, 0, 0, 0), (28, .iconst 0, 1, 0, 0, 0), (29, .iadd, 1, 0, 0, 0), (30, .istore_n 1, 1, 0, 0, 0), (31, .iinc 2 1, 3, 0, 0, 0), (34, .goto (-30), 3, 0, 0, 0), (37, .iload_n 1, 1, 0, 0, 0), (38, .ireturn, 1, 0, 0, 0)]
noncomputable def ij_t194 : List (Nat × ij_E) := [(0, .aload_n 0, 1, 0, 0, 0), (1, .aload_n 0, 1, 0, 0, 0), (2, .getfield 7, 3, 11, 0, 0), (5, .iconst 2, 1, 0, 0, 0), (6, .iaload, 1, 0, 0, 0), (7, .aload_n 0, 1, 0, 0, 0), (8, .getfield 7, 3, 11, 0, 0), (11, .iconst 5, 1, 0, 0, 0), (12, .iaload, 1, 0, 0, 0), (13, .invokevirtual 371, 3, 192, 2, 21), (16, .aload_n 0, 1, 0, 0, 0), (17, .invokevirtual 374, 3, 193, 0, 21), (20, .ireturn, 1, 0, 0, 0)]
noncomputable def ij_t195 : List (Nat × ij_E) := [(0, .iload_n 1, 1, 0, 0, 0), (1, .i2l, 1, 0, 0, 0), (2, .lconst 0, 1, 0, 0, 0), (3, .ldc2_w 319, 3, 0, 59, 0), (6, .invokestatic 289, 3, 149, 3, 1), (9, .ifCond .ne 9, 3, 0, 0, 0), (12, .aload_n 0, 1, 0, 0, 0), (13, .iconst 1, 1, 0, 0, 0), (14, .invokevirtual 118, 3, 98, 1, 21), (17, .ireturn, 1, 0, 0, 0), (18, .aload_n 0, 1, 0, 0, 0), (19, .sipush 2300, 3, 0, 0, 0), (22, .invokevirtual 321, 3, 191, 1, 21), (25, .iconst 0, 1, 0, 0, 0), (26, .istore_n 2, 1, 0, 0, 0), (27, .iload_n 2, 1, 0, 0, 0), (28, .bipush 60, 2, 0, 0, 0), (30, .if_icmp .ge 19, 3, 0, 0, 0), (33, .aload_n 0, 1, 0, 0, 0), (34, .getfield 7, 3, 11, 0, 0), (37, .bipush 20, 2, 0, 0, 0), (39, .iload_n 2, 1, 0, 0, 0), (40, .iadd, 1, 0, 0, 0), (41, .iconst 0, 1, 0, 0, 0), (42, .iastore, 1, 0, 0, 0), (43, .iinc 2 1, 3, 0, 0, 0), (46, .goto (-19), 3, 0, 0, 0), (49, .iconst 0, 1, 0, 0, 0), (50, .istore_n 2, 1, 0, 0, 0), (51, .iload_n 2, 1, 0, 0, 0), (52, .aload_n 0, 1, 0, 0, 0), (53, .getfield 7, 3, 11, 0, 0), (56, .iconst 1, 1, 0, 0, 0), (57, .iaload, 1, 0, 0, 0), (58, .if_icmp .ge 44, 3, 0, 0, 0), (61, .aload_n 0, 1, 0, 0, 0), (62, .getfield 7, 3, 11, 0, 0), (65, .sipush 2320, 3, 0, 0, 0), (68, .iload_n 2, 1, 0, 0, 0), (69, .iadd, 1, 0, 0, 0), (70, .iaload, 1, 0, 0, 0), (71, .iconst 1, 1, 0, 0, 0), (72, .if_icmp .ne 24, 3, 0, 0, 0), (75, .aload_n 0, 1, 0, 0, 0), (76, .getfield 7, 3, 11, 0, 0), (79, .bipush 20, 2, 0, 0, 0), (81, .iload_n 2, 1, 0, 0, 0), (82, .iload_n 1, 1, 0, 0, 0), (83, .iadd, 1, 0, 0, 0), (84, .aload_n 0, 1, 0, 0, 0), (85, .getfield 7, 3, 11, 0, 0), (88, .iconst 1, 1, 0, 0, 0), (89, .iaload, 1, 0, 0, 0), (90, .invokestatic 266, 3, 111, 2, 1), (93, .iadd, 1, 0, 0, 0), (94, .iconst 1, 1, 0, 0, 0), (95, .iastore, 1, 0, 0, 0), (96, .iinc 2 1, 3, 0, 0, 0), (99, .goto (-48), 3, 0, 0, 0), (102, .aload_n 0, 1, 0, 0, 0), (103, .aload_n 0, 1, 0, 0, 0), (104, .invokevirtual 324, 3, 194, 0, 21), (107, .invokevirtual 122, 3, 115, 1, 21), (110, .ireturn, 1, 0, 0, 0)]
noncomputable def ij_t196 : List (Nat × ij_E) := [(0, .aload_n 0, 1, 0, 0, 0), (1, .getfield 53, 3, 10, 7, 0), (4, .iconst 4, 1, 0, 0, 0), (5, .invokevirtual 209, 3, 135, 1, 14), (8, .istore_n 1, 1, 0, 0, 0), (9, .aload_n 0, 1, 0, 0, 0), (10, .getfield 53, 3, 10, 7, 0), (13, .iconst 3, 1, 0, 0, 0), (14, .invokevirtual 209, 3, 135, 1, 14), (17, .istore_n 2, 1, 0, 0, 0), (18, .iload_n 1, 1, 0, 0, 0), (19, .iload_n 2, 1, 0, 0, 0), (20, .if_icmp .lt 10, 3, 0, 0, 0), (23, .aload_n 0, 1, 0, 0, 0), (24, .bipush 7, 2, 0, 0, 0), (26, .invokevirtual 139, 3, 44, 1, 20), (29, .ireturn, 1, 0, 0, 0), (30, .aload_n 0, 1, 0, 0, 0), (31, .getfield 53, 3, 10, 7, 0), (34, .iconst 2, 1, 0, 0, 0), (35, .aload_n 0, 1, 0, 0, 0), (36, .getfield 53, 3, 10, 7, 0), (39, .aload_n 0, 1, 0, 0, 0), (40, .getfield 53, 3, 10, 7, 0), (43, .iconst 2, 1, 0, 0, 0), (44, .invokevirtual 209, 3, 135, 1, 14), (47, .ineg, 1, 0, 0, 0), (48, .invokevirtual 288, 3, 5, 1, 14), (51, .invokevirtual 273, 3, 83, 2, 14), (54, .aload_n 0, 1, 0, 0, 0), (55, .getfield 53, 3, 10, 7, 0), (58, .iconst 4, 1, 0, 0, 0), (59, .iload_n 2, 1, 0, 0, 0), (60, .iconst 1, 1, 0, 0, 0), (61, .isub, 1, 0, 0, 0), (62, .iload_n 1, 1, 0, 0, 0), (63, .isub, 1, 0, 0, 0), (64, .invokevirtual 273, 3, 83, 2, 14), (67, .aload_n 0, 1, 0, 0, 0), (68, .getfield 53, 3, 10, 7, 0), (71, .invokevirtual 276, 3, 9, 0, 14), (74, .aload_n 0, 1, 0, 0, 0), (75, .aload_n 0, 1, 0, 0, 0), (76, .getfield 53, 3, 10, 7, 0), (79, .invokevirtual 187, 3, 89, 0, 14), (82, .invokevirtual 191, 3, 90, 1, 20), (85, .ireturn, 1, 0, 0, 0)]
noncomputable def ij_t197 : List (Nat × ij_E) := [(0, .aload_n 0, 1, 0, 0, 0), (1, .getfield 7, 3, 11, 0, 0), (4, .iconst 4, 1, 0, 0, 0), (5, .iaload, 1, 0, 0, 0), (6, .aload_n 0, 1, 0, 0, 0), (7, .getfield 7, 3, 11, 0, 0), (10, .iconst 3, 1, 0, 0, 0), (11, .iaload, 1, 0, 0, 0), (12, .if_icmp .lt 10, 3, 0, 0, 0), (15, .aload_n 0, 1, 0, 0, 0), (16, .bipush 7, 2, 0, 0, 0), (18, .invokevirtual 118, 3, 98, 1, 21), (21, .ireturn, 1, 0, 0, 0), (22, .aload_n 0, 1, 0, 0, 0), (23, .getfield 7, 3, 11, 0, 0), (26, .iconst 2, 1, 0, 0, 0), (27, .aload_n 0, 1, 0, 0, 0), (28, .getfield 7, 3, 11, 0, 0), (31, .iconst 2, 1, 0, 0, 0), (32, .iaload, 1, 0, 0, 0), (33, .ineg, 1, 0, 0, 0), (34, .aload_n 0, 1, 0, 0, 0), (35, .getfield 7, 3, 11, 0, 0), (38, .iconst 1, 1, 0, 0, 0), (39, .iaload, 1, 0, 0, 0), (40, .invokestatic 266, 3, 111, 2, 1), (43, .iastore, 1, 0, 0, 0), (44, .aload_n 0, 1, 0, 0, 0), (45, .getfield 7, 3, 11, 0, 0), (48, .iconst 4, 1, 0, 0, 0), (49, .aload_n 0, 1, 0, 0, 0), (50, .getfield 7, 3, 11, 0, 0), (53, .iconst 3, 1, 0, 0, 0), (54, .iaload, 1, 0, 0, 0), (55, .iconst 1, 1, 0, 0, 0), (56, .isub, 1, 0, 0, 0), (57, .aload_n 0, 1, 0, 0, 0), (58, .getfield 7, 3, 11, 0, 0), (61, .iconst 4, 1, 0, 0, 0), (62, .iaload, 1, 0, 0, 0), (63, .isub, 1, 0, 0, 0), (64, .iastore, 1, 0, 0, 0), (65, .aload_n 0, 1, 0, 0, 0), (66, .invokevirtual 242, 3, 114, 0, 21), (69, .aload_n 0, 1, 0, 0, 0), (70, .aload_n 0, 1, 0, 0, 0), (71, .getfield 245, 3, 11, 26, 0), (74, .invokevirtual 122, 3, 115, 1, 21), (77, .ireturn, 1, 0, 0, 0)]
noncomputable def ij_t198 : List (Nat × ij_E) := [(0, .aload_n 0, 1, 0, 0, 0), (1, .aload_n 0, 1, 0, 0, 0), (2, .getfield 53, 3, 10, 7, 0), (5, .getfield 226, 3, 4, 3, 0), (8, .iload_n 1, 1, 0, 0, 0), (9, .invokestatic 254, 3, 166, 2, 1), (12, .invokevirtual 260, 3, 167, 1, 20), (15, .ireturn, 1, 0, 0, 0)]
noncomputable def ij_t199 : List (Nat × ij_E) := [(0, .iconst 0, 1, 0, 0, 0), (1, .istore_n 2, 1, 0, 0, 0), (2, .iconst 0, 1, 0, 0, 0), (3, .istore_n 3, 1, 0, 0, 0), (4, .iload_n 3, 1, 0, 0, 0), (5, .bipush 60, 2, 0, 0, 0), (7, .if_icmp .ge 34, 3, 0, 0, 0), (10, .aload_n 0, 1, 0, 0, 0), (11, .iload_n 3, 1, 0, 0, 0), (12, .invokevirtual 279, 3, 143, 1, 21), (15, .ifCond .ne 6, 3, 0, 0, 0), (18, .goto 17, 3, 0, 0, 0), (21, .iload_n 2, 1, 0, 0, 0), (22, .iload_n 1, 1, 0, 0, 0), (23, .if_icmp .ne 9, 3, 0, 0, 0), (26, .aload_n 0, 1, 0, 0, 0), (27, .iload_n 3, 1, 0, 0, 0), (28, .invokevirtual 122, 3, 115, 1, 21), (31, .ireturn, 1, 0, 0, 0), (32, .iinc 2 1, 3, 0, 0, 0), (35, .iinc 3 1, 3, 0, 0, 0), (38, .goto (-34), 3, 0, 0, 0), (41, .aload_n 0, 1, 0, 0, 0), (42, .bipush 6, 2, 0, 0, 0), (44, .invokevirtual 118, 3, 98, 1, 21), (47, .ireturn, 1, 0, 0, 0)]
noncomputable def ij_t200 : List (Nat × ij_E) := [(0, .iload_n 1, 1, 0, 0, 0), (1, .ifCond .lt 29, 3, 0, 0, 0), (4, .iload_n 1, 1, 0, 0, 0), (5, .aload_n 0, 1, 0, 0, 0), (6, .getfield 33, 3, 4, 2, 0), (9, .if_icmp .ge 21, 3, 0, 0, 0), (12, .iload_n 1, 1, 0, 0, 0), (13, .aload_n 0, 1, 0, 0, 0), (14, .getfield 15, 3, 4, 1, 0), (17, .arraylength, 1, 0, 0, 0), (18, .if_icmp .ge 12, 3, 0, 0, 0), (21, .aload_n 0, 1, 0, 0, 0), (22, .getfield 15, 3, 4, 1, 0), (25, .iload_n 1, 1, 0, 0, 0), (26, .iaload, 1, 0, 0, 0), (27, .goto 4, 3, 0, 0, 0), (30, .iconst (-1), 1, 0, 0, 0), (31, .ireturn, 1, 0, 0, 0)]
noncomputable def ij_t201 : List (Nat × ij_E) := [(0, .aload_n 0, 1, 0, 0, 0), (1, .aload_n 0, 1, 0, 0, 0), (2, .getfield 53, 3, 10, 7, 0), (5, .iload_n 1, 1, 0, 0, 0), (6, .invokevirtual 298, 3, 200, 1, 14), (9, .invokevirtual 260, 3, 167, 1, 20), (12, .ireturn, 1, 0, 0, 0)]
noncomputable def ij_t202 : List (Nat × ij_E) := [(0, .iload_n 1, 1, 0, 0, 0), (1, .ifCond .lt 14, 3, 0, 0, 0), (4, .iload_n 1, 1, 0, 0, 0), (5, .aload_n 0, 1, 0, 0, 0), (6, .getfield 7, 3, 11, 0, 0), (9, .bipush 9, 2, 0, 0, 0), (11, .iaload, 1, 0, 0, 0), (12, .if_icmp .lt 12, 3, 0, 0, 0), (15, .aload_n 0, 1, 0, 0, 0), (16, .bipush 6, 2, 0, 0, 0), (18, .invokevirtual 118, 3, 98, 1, 21), (21, .goto 16, 3, 0, 0, 0), (24, .aload_n 0, 1, 0, 0, 0), (25, .aload_n 0, 1, 0, 0, 0), (26, .getfield 7, 3, 11, 0, 0), (29, .bipush 80, 2, 0, 0, 0), (31, .iload_n 1, 1, 0, 0, 0), (32, .iadd, 1, 0, 0, 0), (33, .iaload, 1, 0, 0, 0), (34, .invokevirtual 122, 3, 115, 1, 21), (37, .ireturn, 1, 0, 0, 0)]
noncomputable def ij_t203 : List (Nat × ij_E) := [(0, .aload_n 0, 1, 0, 0, 0), (1, .getfield 23, 3, 3, 3, 0), (4, .iconst 1, 1, 0, 0, 0), (5, .if_icmp .ge 5, 3, 0, 0, 0), (8, .iconst 0, 1, 0, 0, 0), (9, .ireturn, 1, 0, 0, 0), (10, .lconst 0, 1, 0, 0, 0), (11, .lstore_n 2, 1, 0, 0, 0), (12, .iconst 0, 1, 0, 0, 0), (13, .istore 4, 2, 0, 0, 0), (15, .iload 4, 2, 0, 0, 0), (17, .aload_n 0, 1, 0, 0, 0), (18, .getfield 23, 3, 3, 3, 0), (21, .if_icmp .ge 30, 3, 0, 0, 0), (24, .lload_n 2, 1, 0, 0, 0), (25, .aload_n 0, 1, 0, 0, 0), (26, .iload 4, 2, 0, 0, 0), (28, .iload 4, 2, 0, 0, 0), (30, .iload_n 1, 1, 0, 0, 0), (31, .iadd, 1, 0, 0, 0), (32, .aload_n 0, 1, 0, 0, 0), (33, .getfield 23, 3, 3, 3, 0), (36, .irem, 1, 0, 0, 0), (37, .invokevirtual 32, 3, 139, 2, 13), (40, .invokestatic 40, 3, 6, 1, 1), (43, .lor, 1, 0, 0, 0), (44, .lstore_n 2, 1, 0, 0, 0), (45, .iinc 4 1, 3, 0, 0, 0), (48, .goto (-33), 3, 0, 0, 0), (51, .lload_n 2, 1, 0, 0, 0), (52, .invokestatic 44, 3, 88, 1, 1), (55, .ireturn, 1, 0, 0, 0)]
noncomputable def ij_t204 : List (Nat × ij_E) := [(0, .iload_n 1, 1, 0, 0, 0), (1, .iconst 1, 1, 0, 0, 0), (2, .if_icmp .lt 9, 3, 0, 0, 0), (5, .iload_n 1, 1, 0, 0, 0), (6, .bipush 24, 2, 0, 0, 0), (8, .if_icmp .le 9, 3, 0, 0, 0), (11, .aload_n 0, 1, 0, 0, 0), (12, .iconst 1, 1, 0, 0, 0), (13, .invokevirtual 139, 3, 44, 1, 20), (16, .ireturn, 1, 0, 0, 0), (17, .aload_n 0, 1, 0, 0, 0), (18, .aload_n 0, 1, 0, 0, 0), (19, .invokevirtual 212, 3, 137, 0, 20), (22, .iload_n 1, 1, 0, 0, 0), (23, .invokevirtual 301, 3, 203, 1, 13), (26, .invokevirtual 191, 3, 90, 1, 20), (29, .ireturn, 1, 0, 0, 0)]
noncomputable def ij_t205 : List (Nat × ij_E) := [(0, .iconst 0, 1, 0, 0, 0), (1, .istore_n 2, 1, 0, 0, 0), (2, .iconst 0, 1, 0, 0, 0), (3, .istore_n 3, 1, 0, 0, 0), (4, .iload_n 3, 1, 0, 0, 0), (5, .aload_n 0, 1, 0, 0, 0), (6, .getfield 245, 3, 11, 26, 0), (9, .if_icmp .ge 68, 3, 0, 0, 0), (12, .iconst 1, 1, 0, 0, 0), (13, .istore 4, 2, 0, 0, 0), (15, .iconst 0, 1, 0, 0, 0), (16, .istore 5, 2, 0, 0, 0), (18, .iload 5, 2, 0, 0, 0), (20, .iload_n 3, 1, 0, 0, 0), (21, .if_icmp .ge 37, 3, 0, 0, 0), (24, .iload 4, 2, 0, 0, 0), (26, .ifCond .eq 23, 3, 0, 0, 0), (29, .aload_n 0, 1, 0, 0, 0), (30, .iload 5, 2, 0, 0, 0), (32, .iload_n 1, 1, 0, 0, 0), (33, .invokevirtual 304, 3, 164, 2, 21), (36, .aload_n 0, 1, 0, 0, 0), (37, .iload_n 3, 1, 0, 0, 0), (38, .iload_n 1, 1, 0, 0, 0), (39, .invokevirtual 304, 3, 164, 2, 21), (42, .if_icmp .eq 7, 3, 0, 0, 0), (45, .iconst 1, 1, 0, 0, 0), (46, .goto 4, 3, 0, 0, 0), (49, .iconst 0, 1, 0, 0, 0), (50, .istore 4, 2, 0, 0, 0), (52, .iinc 5 1, 3, 0, 0, 0), (55, .goto (-37), 3, 0, 0, 0), (58, .iload_n 2, 1, 0, 0, 0), (59, .iload 4, 2, 0, 0, 0), (61, .ifCond .eq 7, 3, 0, 0, 0), (64, .iconst 1, 1, 0, 0, 0), (65, .goto 4, 3, 0, 0, 0), (68, .iconst 0, 1, 0, 0, 0), (69, .iadd, 1, 0, 0, 0), (70, .istore_n 2, 1, 0, 0, 0), (71, .iinc 3 1, 3, 0, 0, 0), (74, .goto (-70), 3, 0, 0, 0), (77, .iload_n 2, 1, 0, 0, 0), (78, .ireturn, 1, 0, 0, 0)]
noncomputable def ij_t206 : List (Nat × ij_E) := [(0, .iload_n 1, 1, 0, 0, 0), (1, .i2l, 1, 0, 0, 0), (2, .lconst 1, 1, 0, 0, 0), (3, .ldc2_w 302, 3, 0, 24, 0), (6, .invokestatic 289, 3, 149, 3, 1), (9, .ifCond .ne 9, 3, 0, 0, 0), (12, .aload_n 0, 1, 0, 0, 0), (13, .iconst 1, 1, 0, 0, 0), (14, .invokevirtual 118, 3, 98, 1, 21), (17, .ireturn, 1, 0, 0, 0), (18, .aload_n 0, 1, 0, 0, 0), (19, .invokevirtual 242, 3, 114, 0, 21), (22, .aload_n 0, 1, 0, 0, 0), (23, .aload_n 0, 1, 0, 0, 0), (24, .iload_n 1, 1, 0, 0, 0), (25, .invokevirtual 327, 3, 205, 1, 21), (28, .invokevirtual 122, 3, 115, 1, 21), (31, .ireturn, 1, 0, 0, 0)]
noncomputable def ij_t207 : List (Nat × ij_E) := [(0, .aload_n 0, 1, 0, 0, 0), (1, .invokevirtual 212, 3, 137, 0, 20), (4, .astore_n 1, 1, 0, 0, 0), (5, .aload_n 1, 1, 0, 0, 0), (6, .getfield 304, 3, 3, 3, 0), (9, .iconst 2, 1, 0, 0, 0), (10, .if_icmp .ge 9, 3, 0, 0, 0), (13, .aload_n 0, 1, 0, 0, 0), (14, .iconst 0, 1, 0, 0, 0), (15, .invokevirtual 191, 3, 90, 1, 20), (18, .ireturn, 1, 0, 0, 0), (19, .iconst 1, 1, 0, 0, 0), (20, .istore_n 2, 1, 0, 0, 0), (21, .iload_n 2, 1, 0, 0, 0), (22, .aload_n 1, 1, 0, 0, 0), (23, .getfield 304, 3, 3, 3, 0), (26, .if_icmp .ge 24, 3, 0, 0, 0), (29, .aload_n 1, 1, 0, 0, 0), (30, .iload_n 2, 1, 0, 0, 0), (31, .invokevirtual 301, 3, 203, 1, 13), (34, .iconst 2, 1, 0, 0, 0), (35, .if_icmp .eq 9, 3, 0, 0, 0), (38, .aload_n 0, 1, 0, 0, 0), (39, .iconst 0, 1, 0, 0, 0), (40, .invokevirtual 191, 3, 90, 1, 20), (43, .ireturn, 1, 0, 0, 0), (44, .iinc 2 1, 3, 0, 0, 0), (47, .goto (-26), 3, 0, 0, 0), (50, .aload_n 0, 1, 0, 0, 0), (51, .iconst 1, 1, 0, 0, 0), (52, .invokevirtual 191, 3, 90, 1, 20), (55, .ireturn, 1, 0, 0, 0)]
noncomputable def ij_t208 : List (Nat × ij_E) := [(0, .aload_n 0, 1, 0, 0, 0), (1, .invokevirtual 242, 3, 114, 0, 21), (4, .aload_n 0, 1, 0, 0, 0), (5, .getfield 245, 3, 11, 26, 0), (8, .iconst 1, 1, 0, 0, 0), (9, .if_icmp .le 7, 3, 0, 0, 0), (12, .iconst 1, 1, 0, 0, 0), (13, .goto 4, 3, 0, 0, 0), (16, .iconst 0, 1, 0, 0, 0), (17, .istore_n 1, 1, 0, 0, 0), (18, .iconst 1, 1, 0, 0, 0), (19, .istore_n 2, 1, 0, 0, 0), (20, .iload_n 2, 1, 0, 0, 0), (21, .aload_n 0, 1, 0, 0, 0), (22, .getfield 245, 3, 11, 26, 0), (25, .if_icmp .ge 28, 3, 0, 0, 0), (28, .iload_n 1, 1, 0, 0, 0), (29, .ifCond .eq 24, 3, 0, 0, 0), (32, .aload_n 0, 1, 0, 0, 0), (33, .iload_n 2, 1, 0, 0, 0), (34, .invokevirtual 327, 3, 205, 1, 21), (37, .iconst 2, 1, 0, 0, 0), (38, .if_icmp .ne 7, 3, 0, 0, 0), (41, .iconst 1, 1, 0, 0, 0), (42, .goto 4, 3, 0, 0, 0), (45, .iconst 0, 1, 0, 0, 0), (46, .istore_n 1, 1, 0, 0, 0), (47, .iinc 2 1, 3, 0, 0, 0), (50, .goto (-30), 3, 0, 0, 0), (53, .aload_n 0, 1, 0, 0, 0), (54, .iload_n 1, 1, 0, 0, 0), (55, .ifCond .eq 7, 3, 0, 0, 0), (58, .iconst 1, 1, 0, 0, 0), (59, .goto 4, 3, 0, 0, 0), (62, .iconst 0, 1, 0, 0, 0), (63, .invokevirtual 122, 3, 115, 1, 21), (66, .ireturn, 1, 0, 0, 0)]
noncomputable def ij_t209 : List (Nat × ij_E) := [(0, .lconst 0, 1, 0, 0, 0), (1, .lstore_n 1, 1, 0, 0, 0), (2, .iconst 2, 1, 0, 0, 0), (3, .istore_n 3, 1, 0, 0, 0), (4, .iload_n 3, 1, 0, 0, 0), (5, .bipush 24, 2, 0, 0, 0), (7, .if_icmp .gt 85, 3, 0, 0, 0), (10, .aload_n 0, 1, 0, 0, 0), (11, .getfield 53, 3, 10, 7, 0), (14, .aload_n 0, 1, 0, 0, 0), (15, .getfield 53, 3, 10, 7, 0), (18, .iconst 2, 1, 0, 0, 0), (19, .invokevirtual 209, 3, 135, 1, 14), (22, .aload_n 0, 1, 0, 0, 0), (23, .getfield 53, 3, 10, 7, 0), (26, .iconst 5, 1, 0, 0, 0), (27, .invokevirtual 209, 3, 135, 1, 14), (30, .iload_n 3, 1, 0, 0, 0), (31, .invokevirtual 331, 3, 8, 3, 14), (34, .lstore 4, 2, 0, 0, 0), (36, .lload 4, 2, 0, 0, 0), (38, .invokestatic 220, 3, 88, 1, 1), (41, .iload_n 3, 1, 0, 0, 0), (42, .if_icmp .ne 44, 3, 0, 0, 0), (45, .aload_n 0, 1, 0, 0, 0), (46, .getfield 67, 3, 10, 9, 0), (49, .lload 4, 2, 0, 0, 0), (51, .aload_n 0, 1, 0, 0, 0), (52, .getfield 53, 3, 10, 7, 0), (55, .invokevirtual 266, 3, 80, 0, 14), (58, .invokevirtual 412, 3, 136, 2, 13), (61, .lload_n 1, 1, 0, 0, 0), (62, .aload_n 0, 1, 0, 0, 0), (63, .getfield 67, 3, 10, 9, 0), (66, .invokevirtual 216, 3, 141, 0, 13), (69, .invokestatic 220, 3, 88, 1, 1), (72, .iconst 2, 1, 0, 0, 0), (73, .if_icmp .gt 10, 3, 0, 0, 0), (76, .iload_n 3, 1, 0, 0, 0), (77, .invokestatic 415, 3, 6, 1, 1), (80, .goto 4, 3, 0, 0, 0), (83, .lconst 0, 1, 0, 0, 0), (84, .lor, 1, 0, 0, 0), (85, .lstore_n 1, 1, 0, 0, 0), (86, .iinc 3 1, 3, 0, 0, 0), (89, .goto (-85), 3, 0, 0, 0), (92, .lload_n 1, 1, 0, 0, 0), (93, .lreturn, 1, 0, 0, 0)]
noncomputable def ij_t210 : List (Nat × ij_E) := [(0, .aload_n 0, 1, 0, 0, 0), (1, .aload_n 0, 1, 0, 0, 0), (2, .invokevirtual 305, 3, 209, 0, 20), (5, .invokestatic 220, 3, 88, 1, 1), (8, .invokevirtual 191, 3, 90, 1, 20), (11, .ireturn, 1, 0, 0, 0)]
noncomputable def ij_t211 : List (Nat × ij_E) := [(0, .iconst 0, 1, 0, 0, 0), (1, .istore_n 2, 1, 0, 0, 0), (2, .iconst 2, 1, 0, 0, 0), (3, .istore_n 3, 1, 0, 0, 0), (4, .iload_n 3, 1, 0, 0, 0), (5, .bipush 24, 2, 0, 0, 0), (7, .if_icmp .gt 49, 3, 0, 0, 0), (10, .aload_n 0, 1, 0, 0, 0), (11, .iload_n 3, 1, 0, 0, 0), (12, .aload_n 0, 1, 0, 0, 0), (13, .getfield 7, 3, 11, 0, 0), (16, .iconst 2, 1, 0, 0, 0), (17, .iaload, 1, 0, 0, 0), (18, .invokevirtual 275, 3, 113, 2, 21), (21, .aload_n 0, 1, 0, 0, 0), (22, .getfield 245, 3, 11, 26, 0), (25, .iload_n 3, 1, 0, 0, 0), (26, .if_icmp .lt 24, 3, 0, 0, 0), (29, .aload_n 0, 1, 0, 0, 0), (30, .getfield 269, 3, 11, 27, 0), (33, .iconst 2, 1, 0, 0, 0), (34, .if_icmp .le 6, 3, 0, 0, 0), (37, .goto 13, 3, 0, 0, 0), (40, .iload_n 2, 1, 0, 0, 0), (41, .iload_n 1, 1, 0, 0, 0), (42, .if_icmp .ne 5, 3, 0, 0, 0), (45, .iload_n 3, 1, 0, 0, 0), (46, .ireturn, 1, 0, 0, 0), (47, .iinc 2 1, 3, 0, 0, 0), (50, .iinc 3 1, 3, 0, 0, 0), (53, .goto (-49), 3, 0, 0, 0), (56, .iload_n 2, 1, 0, 0, 0), (57, .ireturn, 1, 0, 0, 0)]
noncomputable def ij_t212 : List (Nat × ij_E) := [(0, .aload_n 0, 1, 0, 0, 0), (1, .aload_n 0, 1, 0, 0, 0), (2, .bipush 24, 2, 0, 0, 0), (4, .invokevirtual 330, 3, 211, 1, 21), (7, .invokevirtual 122, 3, 115, 1, 21), (10, .ireturn, 1, 0, 0, 0)]
noncomputable def ij_t213 : List (Nat × ij_E) := [(0, .aload_n 0, 1, 0, 0, 0), (1, .aload_n 0, 1, 0, 0, 0), (2, .invokevirtual 305, 3, 209, 0, 20), (5, .iload_n 1, 1, 0, 0, 0), (6, .invokestatic 254, 3, 166, 2, 1), (9, .invokevirtual 260, 3, 167, 1, 20), (12, .ireturn, 1, 0, 0, 0)]
noncomputable def ij_t214 : List (Nat × ij_E) := [(0, .aload_n 0, 1, 0, 0, 0), (1, .bipush 24, 2, 0, 0, 0), (3, .invokevirtual 330, 3, 211, 1, 21), (6, .istore_n 2, 1, 0, 0, 0), (7, .iload_n 1, 1, 0, 0, 0), (8, .ifCond .lt 8, 3, 0, 0, 0), (11, .iload_n 1, 1, 0, 0, 0), (12, .iload_n 2, 1, 0, 0, 0), (13, .if_icmp .lt 12, 3, 0, 0, 0), (16, .aload_n 0, 1, 0, 0, 0), (17, .bipush 6, 2, 0, 0, 0), (19, .invokevirtual 118, 3, 98, 1, 21), (22, .goto 12, 3, 0, 0, 0), (25, .aload_n 0, 1, 0, 0, 0), (26, .aload_n 0, 1, 0, 0, 0), (27, .iload_n 1, 1, 0, 0, 0), (28, .invokevirtual 330, 3, 211, 1, 21), (31, .invokevirtual 122, 3, 115, 1, 21), (34, .ireturn, 1, 0, 0, 0)]
noncomputable def ij_t215 : List (Nat × ij_E) := [(0, .aload_n 0, 1, 0, 0, 0), (1, .iload_n 1, 1, 0, 0, 0), (2, .invokevirtual 36, 3, 138, 1, 13), (5, .istore_n 2, 1, 0, 0, 0), (6, .iload_n 2, 1, 0, 0, 0), (7, .ifCond .le 23, 3, 0, 0, 0), (10, .aload_n 0, 1, 0, 0, 0), (11, .getfield 15, 3, 3, 1, 0), (14, .aload_n 0, 1, 0, 0, 0), (15, .getfield 19, 3, 3, 2, 0), (18, .iload_n 2, 1, 0, 0, 0), (19, .isub, 1, 0, 0, 0), (20, .aload_n 0, 1, 0, 0, 0), (21, .getfield 19, 3, 3, 2, 0), (24, .invokestatic 53, 3, 188, 3, 1), (27, .goto 7, 3, 0, 0, 0), (30, .aload_n 0, 1, 0, 0, 0), (31, .getfield 15, 3, 3, 1, 0), (34, .lreturn, 1, 0, 0, 0)]
noncomputable def ij_t216 : List (Nat × ij_E) := [(0, .aload_n 0, 1, 0, 0, 0), (1, .invokevirtual 212, 3, 137, 0, 20), (4, .astore_n 1, 1, 0, 0, 0), (5, .iconst 0, 1, 0, 0, 0), (6, .istore_n 2, 1, 0, 0, 0), (7, .iconst 0, 1, 0, 0, 0), (8, .istore_n 3, 1, 0, 0, 0), (9, .iload_n 3, 1, 0, 0, 0), (10, .aload_n 1, 1, 0, 0, 0), (11, .getfield 304, 3, 3, 3, 0), (14, .if_icmp .ge 67, 3, 0, 0, 0), (17, .iconst 1, 1, 0, 0, 0), (18, .istore 4, 2, 0, 0, 0), (20, .iconst 0, 1, 0, 0, 0), (21, .istore 5, 2, 0, 0, 0), (23, .iload 5, 2, 0, 0, 0), (25, .iload_n 3, 1, 0, 0, 0), (26, .if_icmp .ge 36, 3, 0, 0, 0), (29, .iload 4, 2, 0, 0, 0), (31, .ifCond .eq 31, 3, 0, 0, 0), (34, .aload_n 1, 1, 0, 0, 0), (35, .iload 5, 2, 0, 0, 0), (37, .invokevirtual 308, 3, 215, 1, 13), (40, .aload_n 1, 1, 0, 0, 0), (41, .iload_n 3, 1, 0, 0, 0), (42, .invokevirtual 308, 3, 215, 1, 13), (45, .lcmp, 1, 0, 0, 0), (46, .ifCond .eq 7, 3, 0, 0, 0), (49, .iconst 1, 1, 0, 0, 0), (50, .goto 4, 3, 0, 0, 0), (53, .iconst 0, 1, 0, 0, 0), (54, .istore 4, 2, 0, 0, 0), (56, .iinc 5 1, 3, 0, 0, 0), (59, .goto (-36), 3, 0, 0, 0), (62, .iload_n 2, 1, 0, 0, 0), (63, .iload 4, 2, 0, 0, 0), (65, .ifCond .eq 7, 3, 0, 0, 0), (68, .iconst 1, 1, 0, 0, 0), (69, .goto 4, 3, 0, 0, 0), (72, .iconst 0, 1, 0, 0, 0), (73, .iadd, 1, 0, 0, 0), (74, .istore_n 2, 1, 0, 0, 0), (75, .iinc 3 1, 3, 0, 0, 0), (78, .goto (-69), 3, 0, 0, 0), (81, .aload_n 0, 1, 0, 0, 0), (82, .iload_n 2, 1, 0, 0, 0), (83, .invokevirtual 191, 3, 90, 1, 20), (86, .ireturn, 1, 0, 0, 0)]
noncomputable def ij_t217 : List (Nat × ij_E) := [(0, .iconst 0, 1, 0, 0, 0), (1, .istore_n 3, 1, 0, 0, 0), (2, .iload_n 3, 1, 0, 0, 0), (3, .aload_n 0, 1, 0, 0, 0), (4, .getfield 245, 3, 11, 26, 0), (7, .if_icmp .ge 40, 3, 0, 0, 0), (10, .aload_n 0, 1, 0, 0, 0), (11, .getfield 47, 3, 11, 23, 0), (14, .iload_n 1, 1, 0, 0, 0), (15, .iload_n 3, 1, 0, 0, 0), (16, .iadd, 1, 0, 0, 0), (17, .aload_n 0, 1, 0, 0, 0), (18, .getfield 245, 3, 11, 26, 0), (21, .irem, 1, 0, 0, 0), (22, .iaload, 1, 0, 0, 0), (23, .aload_n 0, 1, 0, 0, 0), (24, .getfield 47, 3, 11, 23, 0), (27, .iload_n 2, 1, 0, 0, 0), (28, .iload_n 3, 1, 0, 0, 0), (29, .iadd, 1, 0, 0, 0), (30, .aload_n 0, 1, 0, 0, 0), (31, .getfield 245, 3, 11, 26, 0), (34, .irem, 1, 0, 0, 0), (35, .iaload, 1, 0, 0, 0), (36, .if_icmp .eq 5, 3, 0, 0, 0), (39, .iconst 0, 1, 0, 0, 0), (40, .ireturn, 1, 0, 0, 0), (41, .iinc 3 1, 3, 0, 0, 0), (44, .goto (-42), 3, 0, 0, 0), (47, .iconst 1, 1, 0, 0, 0), (48, .ireturn, 1, 0, 0, 0)]
noncomputable def ij_t218 : List (Nat × ij_E) := [(0, .iconst 0, 1, 0, 0, 0), (1, .istore_n 1, 1, 0, 0, 0), (2, .aload_n 0, 1, 0, 0, 0), (3, .invokevirtual 242, 3, 114, 0, 21), (6, .iconst 0, 1, 0, 0, 0), (7, .istore_n 2, 1, 0, 0, 0), (8, .iload_n 2, 1, 0, 0, 0), (9, .aload_n 0, 1, 0, 0, 0), (10, .getfield 245, 3, 11, 26, 0), (13, .if_icmp .ge 58, 3, 0, 0, 0), (16, .iconst 1, 1, 0, 0, 0), (17, .istore_n 3, 1, 0, 0, 0), (18, .iconst 0, 1, 0, 0, 0), (19, .istore 4, 2, 0, 0, 0), (21, .iload 4, 2, 0, 0, 0), (23, .iload_n 2, 1, 0, 0, 0), (24, .if_icmp .ge 29, 3, 0, 0, 0), (27, .iload_n 3, 1, 0, 0, 0), (28, .ifCond .eq 17, 3, 0, 0, 0), (31, .aload_n 0, 1, 0, 0, 0), (32, .iload_n 2, 1, 0, 0, 0), (33, .iload 4, 2, 0, 0, 0), (35, .invokevirtual 333, 3, 217, 2, 21), (38, .ifCond .ne 7, 3, 0, 0, 0), (41, .iconst 1, 1, 0, 0, 0), (42, .goto 4, 3, 0, 0, 0), (45, .iconst 0, 1, 0, 0, 0), (46, .istore_n 3, 1, 0, 0, 0), (47, .iinc 4 1, 3, 0, 0, 0), (50, .goto (-29), 3, 0, 0, 0), (53, .iload_n 1, 1, 0, 0, 0), (54, .iload_n 3, 1, 0, 0, 0), (55, .ifCond .eq 7, 3, 0, 0, 0), (58, .iconst 1, 1, 0, 0, 0), (59, .goto 4, 3, 0, 0, 0), (62, .iconst 0, 1, 0, 0, 0), (63, .iadd, 1, 0, 0, 0), (64, .istore_n 1, 1, 0, 0, 0), (65, .iinc 2 1, 3, 0, 0, 0), (68, .goto (-60), 3, 0, 0, 0), (71, .aload_n 0, 1, 0, 0, 0), (72, .iload_n 1, 1, 0, 0, 0), (73, .invokevirtual 122, 3, 115, 1, 21), (76, .ireturn, 1, 0, 0, 0)]
noncomputable def ij_t219 : List (Nat × ij_E) := [(0, .aload_n 0, 1, 0, 0, 0), (1, .iload_n 1, 1, 0, 0, 0), (2, .invokevirtual 235, 3, 151, 1, 20), (5, .ifCond .eq 11, 3, 0, 0, 0), (8, .aload_n 0, 1, 0, 0, 0), (9, .iload_n 2, 1, 0, 0, 0), (10, .invokevirtual 235, 3, 151, 1, 20), (13, .ifCond .ne 9, 3, 0, 0, 0), (16, .aload_n 0, 1, 0, 0, 0), (17, .iconst 1, 1, 0, 0, 0), (18, .invokevirtual 139, 3, 44, 1, 20), (21, .ireturn, 1, 0, 0, 0), (22, .aload_n 0, 1, 0, 0, 0), (23, .invokevirtual 212, 3, 137, 0, 20), (26, .astore_n 3, 1, 0, 0, 0), (27, .aload_n 0, 1, 0, 0, 0), (28, .aload_n 3, 1, 0, 0, 0), (29, .iload_n 1, 1, 0, 0, 0), (30, .invokevirtual 308, 3, 215, 1, 13), (33, .aload_n 3, 1, 0, 0, 0), (34, .iload_n 2, 1, 0, 0, 0), (35, .invokevirtual 308, 3, 215, 1, 13), (38, .lcmp, 1, 0, 0, 0), (39, .ifCond .ne 7, 3, 0, 0, 0), (42, .iconst 1, 1, 0, 0, 0), (43, .goto 4, 3, 0, 0, 0), (46, .iconst 0, 1, 0, 0, 0), (47, .invokevirtual 191, 3, 90, 1, 20), (50, .ireturn, 1, 0, 0, 0)]
noncomputable def ij_t220 : List (Nat × ij_E) := [(0, .aload_n 0, 1, 0, 0, 0), (1, .iload_n 1, 1, 0, 0, 0), (2, .invokevirtual 293, 3, 153, 1, 21), (5, .ifCond .eq 11, 3, 0, 0, 0), (8, .aload_n 0, 1, 0, 0, 0), (9, .iload_n 2, 1, 0, 0, 0), (10, .invokevirtual 293, 3, 153, 1, 21), (13, .ifCond .ne 9, 3, 0, 0, 0), (16, .aload_n 0, 1, 0, 0, 0), (17, .iconst 1, 1, 0, 0, 0), (18, .invokevirtual 118, 3, 98, 1, 21), (21, .ireturn, 1, 0, 0, 0), (22, .aload_n 0, 1, 0, 0, 0), (23, .aload_n 0, 1, 0, 0, 0), (24, .iload_n 1, 1, 0, 0, 0), (25, .iload_n 2, 1, 0, 0, 0), (26, .invokevirtual 333, 3, 217, 2, 21), (29, .ifCond .eq 7, 3, 0, 0, 0), (32, .iconst 1, 1, 0, 0, 0), (33, .goto 4, 3, 0, 0, 0), (36, .iconst 0, 1, 0, 0, 0), (37, .invokevirtual 122, 3, 115, 1, 21), (40, .ireturn, 1, 0, 0, 0)]
noncomputable def ij_t221 : List (Nat × ij_E) := [(0, .iconst 0, 1, 0, 0, 0), (1, .istore_n 2, 1, 0, 0, 0), (2, .iconst 0, 1, 0, 0, 0), (3, .istore_n 3, 1, 0, 0, 0), (4, .iload_n 3, 1, 0, 0, 0), (5, .aload_n 0, 1, 0, 0, 0), (6, .getfield 23, 3, 3, 3, 0), (9, .if_icmp .ge 18, 3, 0, 0, 0), (12, .iload_n 2, 1, 0, 0, 0), (13, .aload_n 0, 1, 0, 0, 0), (14, .iload_n 1, 1, 0, 0, 0), (15, .iload_n 3, 1, 0, 0, 0), (16, .invokevirtual 32, 3, 139, 2, 13), (19, .iadd, 1, 0, 0, 0), (20, .istore_n 2, 1, 0, 0, 0), (21, .iinc 3 1, 3, 0, 0, 0), (24, .goto (-20), 3, 0, 0, 0), (27, .iload_n 2, 1, 0, 0, 0), (28, .ireturn, 1, 0, 0, 0)]
noncomputable def ij_t222 : List (Nat × ij_E) := [(0, .aload_n 0, 1, 0, 0, 0), (1, .iload_n 1, 1, 0, 0, 0), (2, .invokevirtual 235, 3, 151, 1, 20), (5, .ifCond .eq 18, 3, 0, 0, 0), (8, .aload_n 0, 1, 0, 0, 0), (9, .aload_n 0, 1, 0, 0, 0), (10, .invokevirtual 212, 3, 137, 0, 20), (13, .iload_n 1, 1, 0, 0, 0), (14, .invokevirtual 311, 3, 221, 1, 13), (17, .invokevirtual 191, 3, 90, 1, 20), (20, .goto 8, 3, 0, 0, 0), (23, .aload_n 0, 1, 0, 0, 0), (24, .iconst 1, 1, 0, 0, 0), (25, .invokevirtual 139, 3, 44, 1, 20), (28, .ireturn, 1, 0, 0, 0)]
noncomputable def ij_t223 : List (Nat × ij_E) := [(0, .iconst 0, 1, 0, 0, 0), (1, .istore_n 2, 1, 0, 0, 0), (2, .iconst 1, 1, 0, 0, 0), (3, .istore_n 3, 1, 0, 0, 0), (4, .iload_n 3, 1, 0, 0, 0), (5, .aload_n 0, 1, 0, 0, 0), (6, .getfield 245, 3, 11, 26, 0), (9, .if_icmp .ge 18, 3, 0, 0, 0), (12, .iload_n 2, 1, 0, 0, 0), (13, .aload_n 0, 1, 0, 0, 0), (14, .iload_n 1, 1, 0, 0, 0), (15, .iload_n 3, 1, 0, 0, 0), (16, .invokevirtual 304, 3, 164, 2, 21), (19, .iadd, 1, 0, 0, 0), (20, .istore_n 2, 1, 0, 0, 0), (21, .iinc 3 1, 3, 0, 0, 0), (24, .goto (-20), 3, 0, 0, 0), (27, .iload_n 2, 1, 0, 0, 0), (28, .ireturn, 1, 0, 0, 0)]
noncomputable def ij_t224 : List (Nat × ij_E) := [(0, .aload_n 0, 1, 0, 0, 0), (1, .iload_n 1, 1, 0, 0, 0), (2, .invokevirtual 293, 3, 153, 1, 21), (5, .ifCond .eq 15, 3, 0, 0, 0), (8, .aload_n 0, 1, 0, 0, 0), (9, .aload_n 0, 1, 0, 0, 0), (10, .iload_n 1, 1, 0, 0, 0), (11, .invokevirtual 336, 3, 223, 1, 21), (14, .invokevirtual 122, 3, 115, 1, 21), (17, .goto 8, 3, 0, 0, 0), (20, .aload_n 0, 1, 0, 0, 0), (21, .iconst 1, 1, 0, 0, 0), (22, .invokevirtual 118, 3, 98, 1, 21), (25, .ireturn, 1, 0, 0, 0)]
noncomputable def ij_t225 : List (Nat × ij_E) := [(0, .iconst 0, 1, 0, 0, 0), (1, .istore_n 3, 1, 0, 0, 0), (2, .iconst 0, 1, 0, 0, 0), (3, .istore 4, 2, 0, 0, 0), (5, .iload 4, 2, 0, 0, 0), (7, .iload_n 2, 1, 0, 0, 0), (8, .if_icmp .ge 88, 3, 0, 0, 0), (11, .iload 4, 2, 0, 0, 0), (13, .aload_n 0, 1, 0, 0, 0), (14, .getfield 85, 3, 10, 12, 0), (17, .arraylength, 1, 0, 0, 0), (18, .if_icmp .ge 78, 3, 0, 0, 0), (21, .iload_n 1, 1, 0, 0, 0), (22, .aload_n 0, 1, 0, 0, 0), (23, .getfield 85, 3, 10, 12, 0), (26, .arraylength, 1, 0, 0, 0), (27, .if_icmp .ge 69, 3, 0, 0, 0), (30, .aload_n 0, 1, 0, 0, 0), (31, .getfield 85, 3, 10, 12, 0), (34, .iload 4, 2, 0, 0, 0), (36, .laload, 1, 0, 0, 0), (37, .aload_n 0, 1, 0, 0, 0), (38, .getfield 85, 3, 10, 12, 0), (41, .iload_n 1, 1, 0, 0, 0), (42, .laload, 1, 0, 0, 0), (43, .lcmp, 1, 0, 0, 0), (44, .ifCond .lt 26, 3, 0, 0, 0), (47, .aload_n 0, 1, 0, 0, 0), (48, .getfield 85, 3, 10, 12, 0), (51, .iload 4, 2, 0, 0, 0), (53, .laload, 1, 0, 0, 0), (54, .aload_n 0, 1, 0, 0, 0), (55, .getfield 85, 3, 10, 12, 0), (58, .iload_n 1, 1, 0, 0, 0), (59, .laload, 1, 0, 0, 0), (60, .lcmp, 1, 0, 0, 0), (61, .ifCond .ne 13, 3, 0, 0, 0), (64, .iload 4, 2, 0, 0, 0), (66, .iload_n 1, 1, 0, 0, 0), (67, .if_icmp .ge 7, 3, 0, 0, 0), (70, .iconst 1, 1, 0, 0, 0), (71, .goto 4, 3, 0, 0, 0), (74, .iconst 0, 1, 0, 0, 0), (75, .istore 5, 2, 0, 0, 0), (77, .iload_n 3, 1, 0, 0, 0), (78, .iload 5, 2, 0, 0, 0), (80, .ifCond .eq 7, 3, 0, 0, 0), (83, .iconst 1, 1, 0, 0, 0), (84, .goto 4, 3, 0, 0, 0), (87, .iconst 0, 1, 0, 0, 0), (88, .iadd, 1, 0, 0, 0), (89, .istore_n 3, 1, 0, 0, 0), (90, .iinc 4 1, 3, 0, 0, 0), (93, .goto (-88), 3, 0, 0, 0), (96, .iload_n 3, 1, 0, 0, 0), (97, .ireturn, 1, 0, 0, 0)]
noncomputable def ij_t226 : List (Nat × ij_E) := [(0, .aload_n 0, 1, 0, 0, 0), (1, .iload_n 1, 1, 0, 0, 0), (2, .invokevirtual 235, 3, 151, 1, 20), (5, .ifCond .ne 10, 3, 0, 0, 0), (8, .aload_n 0, 1, 0, 0, 0), (9, .bipush 6, 2, 0, 0, 0), (11, .invokevirtual 139, 3, 44, 1, 20), (14, .ireturn, 1, 0, 0, 0), (15, .aload_n 0, 1, 0, 0, 0), (16, .invokevirtual 212, 3, 137, 0, 20), (19, .astore_n 2, 1, 0, 0, 0), (20, .iconst 0, 1, 0, 0, 0), (21, .istore_n 3, 1, 0, 0, 0), (22, .iload_n 3, 1, 0, 0, 0), (23, .aload_n 2, 1, 0, 0, 0), (24, .getfield 304, 3, 3, 3, 0), (27, .if_icmp .ge 30, 3, 0, 0, 0), (30, .iload_n 3, 1, 0, 0, 0), (31, .aload_n 0, 1, 0, 0, 0), (32, .getfield 85, 3, 10, 12, 0), (35, .arraylength, 1, 0, 0, 0), (36, .if_icmp .ge 21, 3, 0, 0, 0), (39, .aload_n 0, 1, 0, 0, 0), (40, .getfield 85, 3, 10, 12, 0), (43, .iload_n 3, 1, 0, 0, 0), (44, .aload_n 2, 1, 0, 0, 0), (45, .iload_n 3, 1, 0, 0, 0), (46, .invokevirtual 311, 3, 221, 1, 13), (49, .i2l, 1, 0, 0, 0), (50, .lastore, 1, 0, 0, 0), (51, .iinc 3 1, 3, 0, 0, 0), (54, .goto (-32), 3, 0, 0, 0), (57, .iconst 0, 1, 0, 0, 0), (58, .istore_n 3, 1, 0, 0, 0), (59, .iload_n 3, 1, 0, 0, 0), (60, .aload_n 2, 1, 0, 0, 0), (61, .getfield 304, 3, 3, 3, 0), (64, .if_icmp .ge 28, 3, 0, 0, 0), (67, .aload_n 0, 1, 0, 0, 0), (68, .iload_n 3, 1, 0, 0, 0), (69, .aload_n 2, 1, 0, 0, 0), (70, .getfield 304, 3, 3, 3, 0), (73, .invokevirtual 314, 3, 225, 2, 20), (76, .iload_n 1, 1, 0, 0, 0), (77, .if_icmp .ne 9, 3, 0, 0, 0), (80, .aload_n 0, 1, 0, 0, 0), (81, .iload_n 3, 1, 0, 0, 0), (82, .invokevirtual 191, 3, 90, 1, 20), (85, .ireturn, 1, 0, 0, 0), (86, .iinc 3 1, 3, 0, 0, 0), (89, .goto (-30), 3, 0, 0, 0), (92, .aload_n 0, 1, 0, 0, 0), (93, .bipush 6, 2, 0, 0, 0), (95, .invokevirtual 139, 3, 44, 1, 20), (98, .ireturn, 1, 0, 0, 0)]
noncomputable def ij_t227 : List (Nat × ij_E) := [(0, .aload_n 0, 1, 0, 0, 0), (1, .iload_n 1, 1, 0, 0, 0), (2, .invokevirtual 293, 3, 153, 1, 21), (5, .ifCond .ne 10, 3, 0, 0, 0), (8, .aload_n 0, 1, 0, 0, 0), (9, .bipush 6, 2, 0, 0, 0), (11, .invokevirtual 118, 3, 98, 1, 21), (14, .ireturn, 1, 0, 0, 0), (15, .iconst 0, 1, 0, 0, 0), (16, .istore_n 2, 1, 0, 0, 0), (17, .iload_n 2, 1, 0, 0, 0), (18, .aload_n 0, 1, 0, 0, 0), (19, .getfield 245, 3, 11, 26, 0), (22, .if_icmp .ge 82, 3, 0, 0, 0), (25, .iconst 0, 1, 0, 0, 0), (26, .istore_n 3, 1, 0, 0, 0), (27, .iconst 0, 1, 0, 0, 0), (28, .istore 4, 2, 0, 0, 0), (30, .iload 4, 2, 0, 0, 0), (32, .aload_n 0, 1, 0, 0, 0), (33, .getfield 245, 3, 11, 26, 0), (36, .if_icmp .ge 51, 3, 0, 0, 0), (39, .iload_n 3, 1, 0, 0, 0), (40, .aload_n 0, 1, 0, 0, 0), (41, .iload 4, 2, 0, 0, 0), (43, .invokevirtual 336, 3, 223, 1, 21), (46, .aload_n 0, 1, 0, 0, 0), (47, .iload_n 2, 1, 0, 0, 0), (48, .invokevirtual 336, 3, 223, 1, 21), (51, .if_icmp .lt 23, 3, 0, 0, 0), (54, .aload_n 0, 1, 0, 0, 0), (55, .iload 4, 2, 0, 0, 0), (57, .invokevirtual 336, 3, 223, 1, 21), (60, .aload_n 0, 1, 0, 0, 0), (61, .iload_n 2, 1, 0, 0, 0), (62, .invokevirtual 336, 3, 223, 1, 21), (65, .if_icmp .ne 13, 3, 0, 0, 0), (68, .iload 4, 2, 0, 0, 0), (70, .iload_n 2, 1, 0, 0, 0), (71, .if_icmp .ge 7, 3, 0, 0, 0), (74, .iconst 1, 1, 0, 0, 0), (75, .goto 4, 3, 0, 0, 0), (78, .iconst 0, 1, 0, 0, 0), (79, .iadd, 1, 0, 0, 0), (80, .istore_n 3, 1, 0, 0, 0), (81, .iinc 4 1, 3, 0, 0, 0), (84, .goto (-54), 3, 0, 0, 0), (87, .iload_n 3, 1, 0, 0, 0), (88, .iload_n 1, 1, 0, 0, 0), (89, .if_icmp .ne 9, 3, 0, 0, 0), (92, .aload_n 0, 1, 0, 0, 0), (93, .iload_n 2, 1, 0, 0, 0), (94, .invokevirtual 122, 3, 115, 1, 21), (97, .ireturn, 1, 0, 0, 0), (98, .iinc 2 1, 3, 0, 0, 0), (101, .goto (-84), 3, 0, 0, 0), (104, .aload_n 0, 1, 0, 0, 0), (105, .bipush 6, 2, 0, 0, 0), (107, .invokevirtual 118, 3, 98, 1, 21), (110, .ireturn, 1, 0, 0, 0)]
noncomputable def ij_t228 : List (Nat × ij_E) := [(0, .aload_n 0, 1, 0, 0, 0), (1, .getfield 9, 3, 4, 0, 0), (4, .bipush 6, 2, 0, 0, 0), (6, .iaload, 1, 0, 0, 0), (7, .ifCond .le 17, 3, 0, 0, 0), (10, .iload_n 1, 1, 0, 0, 0), (11, .aload_n 0, 1, 0, 0, 0), (12, .getfield 9, 3, 4, 0, 0), (15, .bipush 6, 2, 0, 0, 0), (17, .iaload, 1, 0, 0, 0), (18, .invokestatic 62, 3, 4, 2, 1), (21, .goto 4, 3, 0, 0, 0), (24, .iconst 0, 1, 0, 0, 0), (25, .ireturn, 1, 0, 0, 0)]
noncomputable def ij_t229 : List (Nat × ij_E) := [(0, .iload_n 1, 1, 0, 0, 0), (1, .invokestatic 229, 3, 146, 1, 1), (4, .ifCond .eq 11, 3, 0, 0, 0), (7, .aload_n 0, 1, 0, 0, 0), (8, .iconst 1, 1, 0, 0, 0), (9, .invokevirtual 139, 3, 44, 1, 20), (12, .goto 15, 3, 0, 0, 0), (15, .aload_n 0, 1, 0, 0, 0), (16, .aload_n 0, 1, 0, 0, 0), (17, .getfield 53, 3, 10, 7, 0), (20, .iload_n 1, 1, 0, 0, 0), (21, .invokevirtual 317, 3, 228, 1, 14), (24, .invokevirtual 191, 3, 90, 1, 20), (27, .ireturn, 1, 0, 0, 0)]
noncomputable def ij_t230 : List (Nat × ij_E) := [(0, .iload_n 1, 1, 0, 0, 0), (1, .aload_n 0, 1, 0, 0, 0), (2, .getfield 7, 3, 11, 0, 0), (5, .bipush 6, 2, 0, 0, 0), (7, .iaload, 1, 0, 0, 0), (8, .invokestatic 266, 3, 111, 2, 1), (11, .ireturn, 1, 0, 0, 0)]
noncomputable def ij_t231 : List (Nat × ij_E) := [(0, .iload_n 1, 1, 0, 0, 0), (1, .i2l, 1, 0, 0, 0), (2, .ldc2_w 285, 3, 0, 18446744073709551556, 0), (5, .ldc2_w 287, 3, 0, 60, 0), (8, .invokestatic 289, 3, 149, 3, 1), (11, .ifCond .eq 15, 3, 0, 0, 0), (14, .aload_n 0, 1, 0, 0, 0), (15, .aload_n 0, 1, 0, 0, 0), (16, .iload_n 1, 1, 0, 0, 0), (17, .invokevirtual 339, 3, 230, 1, 21), (20, .invokevirtual 122, 3, 115, 1, 21), (23, .goto 8, 3, 0, 0, 0), (26, .aload_n 0, 1, 0, 0, 0), (27, .iconst 1, 1, 0, 0, 0), (28, .invokevirtual 118, 3, 98, 1, 21), (31, .ireturn, 1, 0, 0, 0)]
noncomputable def ij_t232 : List (Nat × ij_E) := [(0, .iload_n 0, 1, 0, 0, 0), (1, .iload_n 1, 1, 0, 0, 0), (2, .idiv, 1, 0, 0, 0), (3, .istore_n 2, 1, 0, 0, 0), (4, .iload_n 0, 1, 0, 0, 0), (5, .iload_n 1, 1, 0, 0, 0), (6, .ixor, 1, 0, 0, 0), (7, .ifCond .ge 14, 3, 0, 0, 0), (10, .iload_n 2, 1, 0, 0, 0), (11, .iload_n 1, 1, 0, 0, 0), (12, .imul, 1, 0, 0, 0), (13, .iload_n 0, 1, 0, 0, 0), (14, .if_icmp .eq 7, 3, 0, 0, 0), (17, .iload_n 2, 1, 0, 0, 0), (18, .iconst 1, 1, 0, 0, 0), (19, .isub, 1, 0, 0, 0), (20, .ireturn, 1, 0, 0, 0), (21, .iload_n 2, 1, 0, 0, 0), (22, .ireturn, 1, 0, 0, 0)]
noncomputable def ij_t233 : List (Nat × ij_E) := [(0, .aload_n 0, 1, 0, 0, 0), (1, .getfield 9, 3, 4, 0, 0), (4, .bipush 6, 2, 0, 0, 0), (6, .iaload, 1, 0, 0, 0), (7, .ifCond .le 17, 3, 0, 0, 0), (10, .iload_n 1, 1, 0, 0, 0), (11, .aload_n 0, 1, 0, 0, 0), (12, .getfield 9, 3, 4, 0, 0), (15, .bipush 6, 2, 0, 0, 0), (17, .iaload, 1, 0, 0, 0), (18, .invokestatic 81, 3, 232, 2, 1), (21, .goto 4, 3, 0, 0, 0), (24, .iconst 0, 1, 0, 0, 0), (25, .ireturn, 1, 0, 0, 0)]
noncomputable def ij_t234 : List (Nat × ij_E) := [(0, .iload_n 1, 1, 0, 0, 0), (1, .invokestatic 229, 3, 146, 1, 1), (4, .ifCond .eq 11, 3, 0, 0, 0), (7, .aload_n 0, 1, 0, 0, 0), (8, .iconst 1, 1, 0, 0, 0), (9, .invokevirtual 139, 3, 44, 1, 20), (12, .goto 15, 3, 0, 0, 0), (15, .aload_n 0, 1, 0, 0, 0), (16, .aload_n 0, 1, 0, 0, 0), (17, .getfield 53, 3, 10, 7, 0), (20, .iload_n 1, 1, 0, 0, 0), (21, .invokevirtual 320, 3, 233, 1, 14), (24, .invokevirtual 191, 3, 90, 1, 20), (27, .ireturn, 1, 0, 0, 0)]
noncomputable def ij_t235 : List (Nat × ij_E) := [(0, .iload_n 1, 1, 0, 0, 0), (1, .aload_n 0, 1, 0, 0, 0), (2, .iload_n 1, 1, 0, 0, 0), (3, .invokevirtual 339, 3, 230, 1, 21), (6, .isub, 1, 0, 0, 0), (7, .aload_n 0, 1, 0, 0, 0), (8, .getfield 7, 3, 11, 0, 0), (11, .bipush 6, 2, 0, 0, 0), (13, .iaload, 1, 0, 0, 0), (14, .idiv, 1, 0, 0, 0), (15, .ireturn, 1, 0, 0, 0)]
noncomputable def ij_t236 : List (Nat × ij_E) := [(0, .iload_n 1, 1, 0, 0, 0), (1, .i2l, 1, 0, 0, 0), (2, .ldc2_w 285, 3, 0, 18446744073709551556, 0), (5, .ldc2_w 287, 3, 0, 60, 0), (8, .invokestatic 289, 3, 149, 3, 1), (11, .ifCond .eq 15, 3, 0, 0, 0), (14, .aload_n 0, 1, 0, 0, 0), (15, .aload_n 0, 1, 0, 0, 0), (16, .iload_n 1, 1, 0, 0, 0), (17, .invokevirtual 342, 3, 235, 1, 21), (20, .invokevirtual 122, 3, 115, 1, 21), (23, .goto 8, 3, 0, 0, 0), (26, .aload_n 0, 1, 0, 0, 0), (27, .iconst 1, 1, 0, 0, 0), (28, .invokevirtual 118, 3, 98, 1, 21), (31, .ireturn, 1, 0, 0, 0)]
noncomputable def ij_t237 : List (Nat × ij_E) := [(0, .aload_n 0, 1, 0, 0, 0), (1, .getfield 53, 3, 10, 7, 0), (4, .bipush 6, 2, 0, 0, 0), (6, .invokevirtual 209, 3, 135, 1, 14), (9, .istore_n 3, 1, 0, 0, 0), (10, .iload_n 1, 1, 0, 0, 0), (11, .ifCond .lt 20, 3, 0, 0, 0), (14, .iload_n 1, 1, 0, 0, 0), (15, .iload_n 3, 1, 0, 0, 0), (16, .if_icmp .ge 15, 3, 0, 0, 0), (19, .iload_n 2, 1, 0, 0, 0), (20, .bipush (-9), 2, 0, 0, 0), (22, .if_icmp .lt 9, 3, 0, 0, 0), (25, .iload_n 2, 1, 0, 0, 0), (26, .bipush 9, 2, 0, 0, 0), (28, .if_icmp .le 9, 3, 0, 0, 0), (31, .aload_n 0, 1, 0, 0, 0), (32, .iconst 1, 1, 0, 0, 0), (33, .invokevirtual 139, 3, 44, 1, 20), (36, .ireturn, 1, 0, 0, 0), (37, .aload_n 0, 1, 0, 0, 0), (38, .aload_n 0, 1, 0, 0, 0), (39, .getfield 53, 3, 10, 7, 0), (42, .iload_n 2, 1, 0, 0, 0), (43, .iload_n 3, 1, 0, 0, 0), (44, .imul, 1, 0, 0, 0), (45, .iload_n 1, 1, 0, 0, 0), (46, .iadd, 1, 0, 0, 0), (47, .invokevirtual 232, 3, 147, 1, 14), (50, .invokevirtual 191, 3, 90, 1, 20), (53, .ireturn, 1, 0, 0, 0)]
noncomputable def ij_t238 : List (Nat × ij_E) := [(0, .iload_n 1, 1, 0, 0, 0), (1, .i2l, 1, 0, 0, 0), (2, .lconst 0, 1, 0, 0, 0), (3, .aload_n 0, 1, 0, 0, 0), (4, .getfield 7, 3, 11, 0, 0), (7, .bipush 6, 2, 0, 0, 0), (9, .iaload, 1, 0, 0, 0), (10, .i2l, 1, 0, 0, 0), (11, .lconst 1, 1, 0, 0, 0), (12, .lsub, 1, 0, 0, 0), (13, .invokestatic 289, 3, 149, 3, 1), (16, .ifCond .eq 17, 3, 0, 0, 0), (19, .iload_n 2, 1, 0, 0, 0), (20, .i2l, 1, 0, 0, 0), (21, .ldc2_w 345, 3, 0, 18446744073709551607, 0), (24, .ldc2_w 347, 3, 0, 9, 0), (27, .invokestatic 289, 3, 149, 3, 1), (30, .ifCond .ne 9, 3, 0, 0, 0), (33, .aload_n 0, 1, 0, 0, 0), (34, .iconst 1, 1, 0, 0, 0), (35, .invokevirtual 118, 3, 98, 1, 21), (38, .ireturn, 1, 0, 0, 0), (39, .aload_n 0, 1, 0, 0, 0), (40, .aload_n 0, 1, 0, 0, 0), (41, .iload_n 2, 1, 0, 0, 0), (42, .aload_n 0, 1, 0, 0, 0), (43, .getfield 7, 3, 11, 0, 0), (46, .bipush 6, 2, 0, 0, 0), (48, .iaload, 1, 0, 0, 0), (49, .imul, 1, 0, 0, 0), (50, .iload_n 1, 1, 0, 0, 0), (51, .iadd, 1, 0, 0, 0), (52, .aload_n 0, 1, 0, 0, 0), (53, .getfield 7, 3, 11, 0, 0), (56, .iconst 2, 1, 0, 0, 0), (57, .iaload, 1, 0, 0, 0), (58, .invokevirtual 272, 3, 112, 2, 21), (61, .invokevirtual 122, 3, 115, 1, 21), (64, .ireturn, 1, 0, 0, 0)]
noncomputable def ij_t239 : List (Nat × ij_E) := [(0, .iload_n 0, 1, 0, 0, 0), (1, .ifCond .ge 8, 3, 0, 0, 0), (4, .iload_n 0, 1, 0, 0, 0), (5, .ineg, 1, 0, 0, 0), (6, .goto 4, 3, 0, 0, 0), (9, .iload_n 0, 1, 0, 0, 0), (10, .ireturn, 1, 0, 0, 0)]
noncomputable def ij_t240 : List (Nat × ij_E) := [(0, .aload_n 0, 1, 0, 0, 0), (1, .getfield 53, 3, 10, 7, 0), (4, .iload_n 1, 1, 0, 0, 0), (5, .invokevirtual 241, 3, 77, 1, 14), (8, .ifCond .eq 12, 3, 0, 0, 0), (11, .iload_n 2, 1, 0, 0, 0), (12, .ifCond .lt 8, 3, 0, 0, 0), (15, .iload_n 2, 1, 0, 0, 0), (16, .iconst 2, 1, 0, 0, 0), (17, .if_icmp .le 9, 3, 0, 0, 0), (20, .aload_n 0, 1, 0, 0, 0), (21, .iconst 1, 1, 0, 0, 0), (22, .invokevirtual 139, 3, 44, 1, 20), (25, .ireturn, 1, 0, 0, 0), (26, .iconst 0, 1, 0, 0, 0), (27, .istore_n 3, 1, 0, 0, 0), (28, .iconst 0, 1, 0, 0, 0), (29, .istore 4, 2, 0, 0, 0), (31, .bipush (-60), 2, 0, 0, 0), (33, .istore 5, 2, 0, 0, 0), (35, .iload 5, 2, 0, 0, 0), (37, .bipush 60, 2, 0, 0, 0), (39, .if_icmp .gt 71, 3, 0, 0, 0), (42, .iload_n 3, 1, 0, 0, 0), (43, .ifCond .eq 30, 3, 0, 0, 0), (46, .aload_n 0, 1, 0, 0, 0), (47, .getfield 53, 3, 10, 7, 0), (50, .iload 5, 2, 0, 0, 0), (52, .invokevirtual 320, 3, 233, 1, 14), (55, .invokestatic 323, 3, 239, 1, 1), (58, .aload_n 0, 1, 0, 0, 0), (59, .getfield 53, 3, 10, 7, 0), (62, .iload 4, 2, 0, 0, 0), (64, .invokevirtual 320, 3, 233, 1, 14), (67, .invokestatic 323, 3, 239, 1, 1), (70, .if_icmp .ge 7, 3, 0, 0, 0), (73, .iconst 1, 1, 0, 0, 0), (74, .goto 4, 3, 0, 0, 0), (77, .iconst 0, 1, 0, 0, 0), (78, .istore 6, 2, 0, 0, 0), (80, .iload 6, 2, 0, 0, 0), (82, .ifCond .eq 22, 3, 0, 0, 0), (85, .aload_n 0, 1, 0, 0, 0), (86, .getfield 53, 3, 10, 7, 0), (89, .iload 5, 2, 0, 0, 0), (91, .invokevirtual 232, 3, 147, 1, 14), (94, .iload_n 1, 1, 0, 0, 0), (95, .if_icmp .ne 9, 3, 0, 0, 0), (98, .iload 5, 2, 0, 0, 0), (100, .istore 4, 2, 0, 0, 0), (102, .iconst 1, 1, 0, 0, 0), (103, .istore_n 3, 1, 0, 0, 0), (104, .iinc 5 1, 3, 0, 0, 0), (107, .goto (-72), 3, 0, 0, 0), (110, .iload_n 3, 1, 0, 0, 0), (111, .ifCond .ne 10, 3, 0, 0, 0), (114, .aload_n 0, 1, 0, 0, 0), (115, .bipush 6, 2, 0, 0, 0), (117, .invokevirtual 139, 3, 44, 1, 20), (120, .ireturn, 1, 0, 0, 0), (121, .iload_n 2, 1, 0, 0, 0), (122, .iconst 2, 1, 0, 0, 0), (123, .if_icmp .ne 10, 3, 0, 0, 0), (126, .aload_n 0, 1, 0, 0, 0), (127, .iload 4, 2, 0, 0, 0), (129, .invokevirtual 191, 3, 90, 1, 20), (132, .ireturn, 1, 0, 0, 0), (133, .aload_n 0, 1, 0, 0, 0), (134, .iload_n 2, 1, 0, 0, 0), (135, .ifCond .ne 15, 3, 0, 0, 0), (138, .aload_n 0, 1, 0, 0, 0), (139, .getfield 53, 3, 10, 7, 0), (142, .iload 4, 2, 0, 0, 0), (144, .invokevirtual 317, 3, 228, 1, 14), (147, .goto 12, 3, 0, 0, 0), (150, .aload_n 0, 1, 0, 0, 0), (151, .getfield 53, 3, 10, 7, 0), (154, .iload 4, 2, 0, 0, 0), (156, .invokevirtual 320, 3, 233, 1, 14), (159, .invokevirtual 191, 3, 90, 1, 20), (162, .ireturn, 1, 0, 0, 0)]
noncomputable def ij_t241 : List (Nat × ij_E) := [(0, .aload_n 0, 1, 0, 0, 0), (1, .bipush 61, 2, 0, 0, 0), (3, .putfield 349, 3, 11, 28, 0), (6, .aload_n 0, 1, 0, 0, 0), (7, .iconst 0, 1, 0, 0, 0), (8, .putfield 352, 3, 11, 29, 0), (11, .bipush (-60), 2, 0, 0, 0), (13, .istore_n 2, 1, 0, 0, 0), (14, .iload_n 2, 1, 0, 0, 0), (15, .bipush 60, 2, 0, 0, 0), (17, .if_icmp .gt 73, 3, 0, 0, 0), (20, .aload_n 0, 1, 0, 0, 0), (21, .iload_n 2, 1, 0, 0, 0), (22, .aload_n 0, 1, 0, 0, 0), (23, .getfield 7, 3, 11, 0, 0), (26, .iconst 2, 1, 0, 0, 0), (27, .iaload, 1, 0, 0, 0), (28, .invokevirtual 272, 3, 112, 2, 21), (31, .iload_n 1, 1, 0, 0, 0), (32, .if_icmp .eq 6, 3, 0, 0, 0), (35, .goto 49, 3, 0, 0, 0), (38, .aload_n 0, 1, 0, 0, 0), (39, .dup, 1, 0, 0, 0), (40, .getfield 352, 3, 11, 29, 0), (43, .iconst 1, 1, 0, 0, 0), (44, .iadd, 1, 0, 0, 0), (45, .putfield 352, 3, 11, 29, 0), (48, .aload_n 0, 1, 0, 0, 0), (49, .getfield 349, 3, 11, 28, 0), (52, .bipush 60, 2, 0, 0, 0), (54, .if_icmp .gt 25, 3, 0, 0, 0), (57, .aload_n 0, 1, 0, 0, 0), (58, .iload_n 2, 1, 0, 0, 0), (59, .invokevirtual 342, 3, 235, 1, 21), (62, .invokestatic 355, 3, 239, 1, 1), (65, .aload_n 0, 1, 0, 0, 0), (66, .aload_n 0, 1, 0, 0, 0), (67, .getfield 349, 3, 11, 28, 0), (70, .invokevirtual 342, 3, 235, 1, 21), (73, .invokestatic 355, 3, 239, 1, 1), (76, .if_icmp .ge 8, 3, 0, 0, 0), (79, .aload_n 0, 1, 0, 0, 0), (80, .iload_n 2, 1, 0, 0, 0), (81, .putfield 349, 3, 11, 28, 0), (84, .iinc 2 1, 3, 0, 0, 0), (87, .goto (-73), 3, 0, 0, 0), (90, .return_, 1, 0, 0, 0)]
noncomputable def ij_t242 : List (Nat × ij_E) := [(0, .aload_n 0, 1, 0, 0, 0), (1, .iload_n 1, 1, 0, 0, 0), (2, .invokevirtual 296, 3, 158, 1, 21), (5, .ifCond .eq 12, 3, 0, 0, 0), (8, .iload_n 2, 1, 0, 0, 0), (9, .ifCond .lt 8, 3, 0, 0, 0), (12, .iload_n 2, 1, 0, 0, 0), (13, .iconst 2, 1, 0, 0, 0), (14, .if_icmp .le 9, 3, 0, 0, 0), (17, .aload_n 0, 1, 0, 0, 0), (18, .iconst 1, 1, 0, 0, 0), (19, .invokevirtual 118, 3, 98, 1, 21), (22, .ireturn, 1, 0, 0, 0), (23, .aload_n 0, 1, 0, 0, 0), (24, .iload_n 1, 1, 0, 0, 0), (25, .invokevirtual 358, 3, 241, 1, 21), (28, .aload_n 0, 1, 0, 0, 0), (29, .getfield 352, 3, 11, 29, 0), (32, .ifCond .ne 10, 3, 0, 0, 0), (35, .aload_n 0, 1, 0, 0, 0), (36, .bipush 6, 2, 0, 0, 0), (38, .invokevirtual 118, 3, 98, 1, 21), (41, .ireturn, 1, 0, 0, 0), (42, .aload_n 0, 1, 0, 0, 0), (43, .iload_n 2, 1, 0, 0, 0), (44, .ifCond .ne 14, 3, 0, 0, 0), (47, .aload_n 0, 1, 0, 0, 0), (48, .aload_n 0, 1, 0, 0, 0), (49, .getfield 349, 3, 11, 28, 0), (52, .invokevirtual 339, 3, 230, 1, 21), (55, .goto 23, 3, 0, 0, 0), (58, .iload_n 2, 1, 0, 0, 0), (59, .iconst 1, 1, 0, 0, 0), (60, .if_icmp .ne 14, 3, 0, 0, 0), (63, .aload_n 0, 1, 0, 0, 0), (64, .aload_n 0, 1, 0, 0, 0), (65, .getfield 349, 3, 11, 28, 0), (68, .invokevirtual 342, 3, 235, 1, 21), (71, .goto 7, 3, 0, 0, 0), (74, .aload_n 0, 1, 0, 0, 0), (75, .getfield 349, 3, 11, 28, 0), (78, .invokevirtual 122, 3, 115, 1, 21), (81, .ireturn, 1, 0, 0, 0)]
noncomputable def ij_t243 : List (Nat × ij_E) := [(0, .aload_n 0, 1, 0, 0, 0), (1, .getfield 53, 3, 10, 7, 0), (4, .iload_n 1, 1, 0, 0, 0), (5, .invokevirtual 241, 3, 77, 1, 14), (8, .ifCond .ne 9, 3, 0, 0, 0), (11, .aload_n 0, 1, 0, 0, 0), (12, .iconst 1, 1, 0, 0, 0), (13, .invokevirtual 139, 3, 44, 1, 20), (16, .ireturn, 1, 0, 0, 0), (17, .iconst 0, 1, 0, 0, 0), (18, .istore_n 2, 1, 0, 0, 0), (19, .bipush (-60), 2, 0, 0, 0), (21, .istore_n 3, 1, 0, 0, 0), (22, .iload_n 3, 1, 0, 0, 0), (23, .bipush 60, 2, 0, 0, 0), (25, .if_icmp .gt 29, 3, 0, 0, 0), (28, .iload_n 2, 1, 0, 0, 0), (29, .aload_n 0, 1, 0, 0, 0), (30, .getfield 53, 3, 10, 7, 0), (33, .iload_n 3, 1, 0, 0, 0), (34, .invokevirtual 232, 3, 147, 1, 14), (37, .iload_n 1, 1, 0, 0, 0), (38, .if_icmp .ne 7, 3, 0, 0, 0), (41, .iconst 1, 1, 0, 0, 0), (42, .goto 4, 3, 0, 0, 0), (45, .iconst 0, 1, 0, 0, 0), (46, .iadd, 1, 0, 0, 0), (47, .istore_n 2, 1, 0, 0, 0), (48, .iinc 3 1, 3, 0, 0, 0), (51, .goto (-29), 3, 0, 0, 0), (54, .aload_n 0, 1, 0, 0, 0), (55, .iload_n 2, 1, 0, 0, 0), (56, .invokevirtual 191, 3, 90, 1, 20), (59, .ireturn, 1, 0, 0, 0)]
noncomputable def ij_t244 : List (Nat × ij_E) := [(0, .aload_n 0, 1, 0, 0, 0), (1, .iload_n 1, 1, 0, 0, 0), (2, .invokevirtual 296, 3, 158, 1, 21), (5, .ifCond .ne 9, 3, 0, 0, 0), (8, .aload_n 0, 1, 0, 0, 0), (9, .iconst 1, 1, 0, 0, 0), (10, .invokevirtual 118, 3, 98, 1, 21), (13, .ireturn, 1, 0, 0, 0), (14, .aload_n 0, 1, 0, 0, 0), (15, .iload_n 1, 1, 0, 0, 0), (16, .invokevirtual 358, 3, 241, 1, 21), (19, .aload_n 0, 1, 0, 0, 0), (20, .aload_n 0, 1, 0, 0, 0), (21, .getfield 352, 3, 11, 29, 0), (24, .invokevirtual 122, 3, 115, 1, 21), (27, .ireturn, 1, 0, 0, 0)]
noncomputable def ij_t245 : List (Nat × ij_E) := [(0, .aload_n 0, 1, 0, 0, 0), (1, .iload_n 1, 1, 0, 0, 0), (2, .aload_n 0, 1, 0, 0, 0), (3, .getfield 9, 3, 4, 0, 0), (6, .bipush 7, 2, 0, 0, 0), (8, .iaload, 1, 0, 0, 0), (9, .imul, 1, 0, 0, 0), (10, .iload_n 2, 1, 0, 0, 0), (11, .aload_n 0, 1, 0, 0, 0), (12, .getfield 9, 3, 4, 0, 0), (15, .bipush 8, 2, 0, 0, 0), (17, .iaload, 1, 0, 0, 0), (18, .imul, 1, 0, 0, 0), (19, .iadd, 1, 0, 0, 0), (20, .invokevirtual 48, 3, 5, 1, 14), (23, .ireturn, 1, 0, 0, 0)]
noncomputable def ij_t246 : List (Nat × ij_E) := [(0, .iload_n 1, 1, 0, 0, 0), (1, .ifCond .lt 19, 3, 0, 0, 0), (4, .iload_n 1, 1, 0, 0, 0), (5, .bipush 12, 2, 0, 0, 0), (7, .if_icmp .ge 13, 3, 0, 0, 0), (10, .iload_n 2, 1, 0, 0, 0), (11, .ifCond .lt 9, 3, 0, 0, 0), (14, .iload_n 2, 1, 0, 0, 0), (15, .bipush 6, 2, 0, 0, 0), (17, .if_icmp .lt 9, 3, 0, 0, 0), (20, .aload_n 0, 1, 0, 0, 0), (21, .iconst 1, 1, 0, 0, 0), (22, .invokevirtual 139, 3, 44, 1, 20), (25, .ireturn, 1, 0, 0, 0), (26, .aload_n 0, 1, 0, 0, 0), (27, .aload_n 0, 1, 0, 0, 0), (28, .getfield 53, 3, 10, 7, 0), (31, .iload_n 1, 1, 0, 0, 0), (32, .iload_n 2, 1, 0, 0, 0), (33, .invokevirtual 328, 3, 245, 2, 14), (36, .invokevirtual 191, 3, 90, 1, 20), (39, .ireturn, 1, 0, 0, 0)]
noncomputable def ij_t247 : List (Nat × ij_E) := [(0, .iload_n 1, 1, 0, 0, 0), (1, .bipush 6, 2, 0, 0, 0), (3, .idiv, 1, 0, 0, 0), (4, .aload_n 0, 1, 0, 0, 0), (5, .getfield 7, 3, 11, 0, 0), (8, .bipush 7, 2, 0, 0, 0), (10, .iaload, 1, 0, 0, 0), (11, .imul, 1, 0, 0, 0), (12, .iload_n 1, 1, 0, 0, 0), (13, .bipush 6, 2, 0, 0, 0), (15, .irem, 1, 0, 0, 0), (16, .aload_n 0, 1, 0, 0, 0), (17, .getfield 7, 3, 11, 0, 0), (20, .bipush 8, 2, 0, 0, 0), (22, .iaload, 1, 0, 0, 0), (23, .imul, 1, 0, 0, 0), (24, .iadd, 1, 0, 0, 0), (25, .aload_n 0, 1, 0, 0, 0), (26, .getfield 7, 3, 11, 0, 0), (29, .iconst 1, 1, 0, 0, 0), (30, .iaload, 1, 0, 0, 0), (31, .invokestatic 266, 3, 111, 2, 1), (34, .ireturn, 1, 0, 0, 0)]
noncomputable def ij_t248 : List (Nat × ij_E) := [(0, .iload_n 1, 1, 0, 0, 0), (1, .i2l, 1, 0, 0, 0), (2, .lconst 0, 1, 0, 0, 0), (3, .ldc2_w 361, 3, 0, 11, 0), (6, .invokestatic 289, 3, 149, 3, 1), (9, .ifCond .eq 32, 3, 0, 0, 0), (12, .iload_n 2, 1, 0, 0, 0), (13, .i2l, 1, 0, 0, 0), (14, .lconst 0, 1, 0, 0, 0), (15, .ldc2_w 363, 3, 0, 5, 0), (18, .invokestatic 289, 3, 149, 3, 1), (21, .ifCond .eq 20, 3, 0, 0, 0), (24, .aload_n 0, 1, 0, 0, 0), (25, .aload_n 0, 1, 0, 0, 0), (26, .bipush 6, 2, 0, 0, 0), (28, .iload_n 1, 1, 0, 0, 0), (29, .imul, 1, 0, 0, 0), (30, .iload_n 2, 1, 0, 0, 0), (31, .iadd, 1, 0, 0, 0), (32, .invokevirtual 365, 3, 247, 1, 21), (35, .invokevirtual 122, 3, 115, 1, 21), (38, .goto 8, 3, 0, 0, 0), (41, .aload_n 0, 1, 0, 0, 0), (42, .iconst 1, 1, 0, 0, 0), (43, .invokevirtual 118, 3, 98, 1, 21), (46, .ireturn, 1, 0, 0, 0)]
noncomputable def ij_t249 : List (Nat × ij_E) := [(0, .aload_n 0, 1, 0, 0, 0), (1, .getfield 53, 3, 10, 7, 0), (4, .iload_n 1, 1, 0, 0, 0), (5, .invokevirtual 241, 3, 77, 1, 14), (8, .ifCond .ne 9, 3, 0, 0, 0), (11, .aload_n 0, 1, 0, 0, 0), (12, .iconst 1, 1, 0, 0, 0), (13, .invokevirtual 139, 3, 44, 1, 20), (16, .ireturn, 1, 0, 0, 0), (17, .iconst 0, 1, 0, 0, 0), (18, .istore_n 2, 1, 0, 0, 0), (19, .iconst 0, 1, 0, 0, 0), (20, .istore_n 3, 1, 0, 0, 0), (21, .iload_n 3, 1, 0, 0, 0), (22, .bipush 6, 2, 0, 0, 0), (24, .if_icmp .ge 47, 3, 0, 0, 0), (27, .iconst 0, 1, 0, 0, 0), (28, .istore 4, 2, 0, 0, 0), (30, .iload 4, 2, 0, 0, 0), (32, .bipush 12, 2, 0, 0, 0), (34, .if_icmp .ge 31, 3, 0, 0, 0), (37, .iload_n 2, 1, 0, 0, 0), (38, .aload_n 0, 1, 0, 0, 0), (39, .getfield 53, 3, 10, 7, 0), (42, .iload 4, 2, 0, 0, 0), (44, .iload_n 3, 1, 0, 0, 0), (45, .invokevirtual 328, 3, 245, 2, 14), (48, .iload_n 1, 1, 0, 0, 0), (49, .if_icmp .ne 7, 3, 0, 0, 0), (52, .iconst 1, 1, 0, 0, 0), (53, .goto 4, 3, 0, 0, 0), (56, .iconst 0, 1, 0, 0, 0), (57, .iadd, 1, 0, 0, 0), (58, .istore_n 2, 1, 0, 0, 0), (59, .iinc 4 1, 3, 0, 0, 0), (62, .goto (-32), 3, 0, 0, 0), (65, .iinc 3 1, 3, 0, 0, 0), (68, .goto (-47), 3, 0, 0, 0), (71, .aload_n 0, 1, 0, 0, 0), (72, .iload_n 2, 1, 0, 0, 0), (73, .invokevirtual 191, 3, 90, 1, 20), (76, .ireturn, 1, 0, 0, 0)]
noncomputable def ij_t250 : List (Nat × ij_E) := [(0, .aload_n 0, 1, 0, 0, 0), (1, .iload_n 1, 1, 0, 0, 0), (2, .invokevirtual 296, 3, 158, 1, 21), (5, .ifCond .ne 9, 3, 0, 0, 0), (8, .aload_n 0, 1, 0, 0, 0), (9, .iconst 1, 1, 0, 0, 0), (10, .invokevirtual 118, 3, 98, 1, 21), (13, .ireturn, 1, 0, 0, 0), (14, .iconst 0, 1, 0, 0, 0), (15, .istore_n 2, 1, 0, 0, 0), (16, .iconst 0, 1, 0, 0, 0), (17, .istore_n 3, 1, 0, 0, 0), (18, .iload_n 3, 1, 0, 0, 0), (19, .bipush 72, 2, 0, 0, 0), (21, .if_icmp .ge 26, 3, 0, 0, 0), (24, .iload_n 2, 1, 0, 0, 0), (25, .aload_n 0, 1, 0, 0, 0), (26, .iload_n 3, 1, 0, 0, 0), (27, .invokevirtual 365, 3, 247, 1, 21), (30, .iload_n 1, 1, 0, 0, 0), (31, .if_icmp .ne 7, 3, 0, 0, 0), (34, .iconst 1, 1, 0, 0, 0), (35, .goto 4, 3, 0, 0, 0), (38, .iconst 0, 1, 0, 0, 0), (39, .iadd, 1, 0, 0, 0), (40, .istore_n 2, 1, 0, 0, 0), (41, .iinc 3 1, 3, 0, 0, 0), (44, .goto (-26), 3, 0, 0, 0), (47, .aload_n 0, 1, 0, 0, 0), (48, .iload_n 2, 1, 0, 0, 0), (49, .invokevirtual 122, 3, 115, 1, 21), (52, .ireturn, 1, 0, 0, 0)]
noncomputable def ij_t251 : List (Nat × ij_E) := [(0, .aload_n 0, 1, 0, 0, 0), (1, .getfield 53, 3, 10, 7, 0), (4, .iload_n 1, 1, 0, 0, 0), (5, .invokevirtual 241, 3, 77, 1, 14), (8, .ifCond .eq 12, 3, 0, 0, 0), (11, .iload_n 2, 1, 0, 0, 0), (12, .ifCond .lt 8, 3, 0, 0, 0), (15, .iload_n 2, 1, 0, 0, 0), (16, .iconst 1, 1, 0, 0, 0), (17, .if_icmp .le 9, 3, 0, 0, 0), (20, .aload_n 0, 1, 0, 0, 0), (21, .iconst 1, 1, 0, 0, 0), (22, .invokevirtual 139, 3, 44, 1, 20), (25, .ireturn, 1, 0, 0, 0), (26, .iconst 0, 1, 0, 0, 0), (27, .istore_n 3, 1, 0, 0, 0), (28, .iload_n 3, 1, 0, 0, 0), (29, .bipush 18, 2, 0, 0, 0), (31, .if_icmp .ge 75, 3, 0, 0, 0), (34, .iconst 0, 1, 0, 0, 0), (35, .istore 4, 2, 0, 0, 0), (37, .iload 4, 2, 0, 0, 0), (39, .bipush 6, 2, 0, 0, 0), (41, .if_icmp .ge 59, 3, 0, 0, 0), (44, .iload 4, 2, 0, 0, 0), (46, .iload_n 3, 1, 0, 0, 0), (47, .if_icmp .gt 53, 3, 0, 0, 0), (50, .iload_n 3, 1, 0, 0, 0), (51, .iload 4, 2, 0, 0, 0), (53, .isub, 1, 0, 0, 0), (54, .istore 5, 2, 0, 0, 0), (56, .iload 5, 2, 0, 0, 0), (58, .bipush 12, 2, 0, 0, 0), (60, .if_icmp .ge 34, 3, 0, 0, 0), (63, .aload_n 0, 1, 0, 0, 0), (64, .getfield 53, 3, 10, 7, 0), (67, .iload 5, 2, 0, 0, 0), (69, .iload 4, 2, 0, 0, 0), (71, .invokevirtual 328, 3, 245, 2, 14), (74, .iload_n 1, 1, 0, 0, 0), (75, .if_icmp .ne 19, 3, 0, 0, 0), (78, .aload_n 0, 1, 0, 0, 0), (79, .iload_n 2, 1, 0, 0, 0), (80, .ifCond .ne 8, 3, 0, 0, 0), (83, .iload 5, 2, 0, 0, 0), (85, .goto 5, 3, 0, 0, 0), (88, .iload 4, 2, 0, 0, 0), (90, .invokevirtual 191, 3, 90, 1, 20), (93, .ireturn, 1, 0, 0, 0), (94, .iinc 4 1, 3, 0, 0, 0), (97, .goto (-60), 3, 0, 0, 0), (100, .iinc 3 1, 3, 0, 0, 0), (103, .goto (-75), 3, 0, 0, 0), (106, .aload_n 0, 1, 0, 0, 0), (107, .bipush 6, 2, 0, 0, 0), (109, .invokevirtual 139, 3, 44, 1, 20), (112, .ireturn, 1, 0, 0, 0)]
noncomputable def ij_t252 : List (Nat × ij_E) := [(0, .iconst 0, 1, 0, 0, 0), (1, .istore_n 2, 1, 0, 0, 0), (2, .iload_n 2, 1, 0, 0, 0), (3, .bipush 18, 2, 0, 0, 0), (5, .if_icmp .ge 61, 3, 0, 0, 0), (8, .iconst 0, 1, 0, 0, 0), (9, .istore_n 3, 1, 0, 0, 0), (10, .iload_n 3, 1, 0, 0, 0), (11, .bipush 6, 2, 0, 0, 0), (13, .if_icmp .ge 47, 3, 0, 0, 0), (16, .iload_n 3, 1, 0, 0, 0), (17, .iload_n 2, 1, 0, 0, 0), (18, .if_icmp .gt 42, 3, 0, 0, 0), (21, .iload_n 2, 1, 0, 0, 0), (22, .iload_n 3, 1, 0, 0, 0), (23, .isub, 1, 0, 0, 0), (24, .bipush 12, 2, 0, 0, 0), (26, .if_icmp .ge 28, 3, 0, 0, 0), (29, .aload_n 0, 1, 0, 0, 0), (30, .bipush 6, 2, 0, 0, 0), (32, .iload_n 2, 1, 0, 0, 0), (33, .iload_n 3, 1, 0, 0, 0), (34, .isub, 1, 0, 0, 0), (35, .imul, 1, 0, 0, 0), (36, .iload_n 3, 1, 0, 0, 0), (37, .iadd, 1, 0, 0, 0), (38, .invokevirtual 365, 3, 247, 1, 21), (41, .iload_n 1, 1, 0, 0, 0), (42, .if_icmp .ne 12, 3, 0, 0, 0), (45, .bipush 6, 2, 0, 0, 0), (47, .iload_n 2, 1, 0, 0, 0), (48, .iload_n 3, 1, 0, 0, 0), (49, .isub, 1, 0, 0, 0), (50, .imul, 1, 0, 0, 0), (51, .iload_n 3, 1, 0, 0, 0), (52, .iadd, 1, 0, 0, 0), (53, .ireturn, 1, 0, 0, 0), (54, .iinc 3 1, 3, 0, 0, 0), (57, .goto (-47), 3, 0, 0, 0), (60, .iinc 2 1, 3, 0, 0, 0), (63, .goto (-61), 3, 0, 0, 0), (66, .iconst (-1), 1, 0, 0, 0), (67, .ireturn, 1, 0, 0, 0)]
noncomputable def ij_t253 : List (Nat × ij_E) := [(0, .aload_n 0, 1, 0, 0, 0), (1, .iload_n 1, 1, 0, 0, 0), (2, .invokevirtual 296, 3, 158, 1, 21), (5, .ifCond .eq 12, 3, 0, 0, 0), (8, .iload_n 2, 1, 0, 0, 0), (9, .ifCond .lt 8, 3, 0, 0, 0), (12, .iload_n 2, 1, 0, 0, 0), (13, .iconst 1, 1, 0, 0, 0), (14, .if_icmp .le 9, 3, 0, 0, 0), (17, .aload_n 0, 1, 0, 0, 0), (18, .iconst 1, 1, 0, 0, 0), (19, .invokevirtual 118, 3, 98, 1, 21), (22, .ireturn, 1, 0, 0, 0), (23, .aload_n 0, 1, 0, 0, 0), (24, .iload_n 1, 1, 0, 0, 0), (25, .invokevirtual 368, 3, 252, 1, 21), (28, .istore_n 3, 1, 0, 0, 0), (29, .iload_n 3, 1, 0, 0, 0), (30, .iconst (-1), 1, 0, 0, 0), (31, .if_icmp .ne 10, 3, 0, 0, 0), (34, .aload_n 0, 1, 0, 0, 0), (35, .bipush 6, 2, 0, 0, 0), (37, .invokevirtual 118, 3, 98, 1, 21), (40, .ireturn, 1, 0, 0, 0), (41, .aload_n 0, 1, 0, 0, 0), (42, .iload_n 2, 1, 0, 0, 0), (43, .ifCond .ne 10, 3, 0, 0, 0), (46, .iload_n 3, 1, 0, 0, 0), (47, .bipush 6, 2, 0, 0, 0), (49, .idiv, 1, 0, 0, 0), (50, .goto 7, 3, 0, 0, 0), (53, .iload_n 3, 1, 0, 0, 0), (54, .bipush 6, 2, 0, 0, 0), (56, .irem, 1, 0, 0, 0), (57, .invokevirtual 122, 3, 115, 1, 21), (60, .ireturn, 1, 0, 0, 0)]
noncomputable def ij_t254 : List (Nat × ij_E) := [(0, .lconst 0, 1, 0, 0, 0), (1, .lstore_n 1, 1, 0, 0, 0), (2, .iconst 0, 1, 0, 0, 0), (3, .istore_n 3, 1, 0, 0, 0), (4, .iload_n 3, 1, 0, 0, 0), (5, .bipush 6, 2, 0, 0, 0), (7, .if_icmp .ge 40, 3, 0, 0, 0), (10, .iconst 0, 1, 0, 0, 0), (11, .istore 4, 2, 0, 0, 0), (13, .iload 4, 2, 0, 0, 0), (15, .bipush 12, 2, 0, 0, 0), (17, .if_icmp .ge 24, 3, 0, 0, 0), (20, .lload_n 1, 1, 0, 0, 0), (21, .lconst 1, 1, 0, 0, 0), (22, .aload_n 0, 1, 0, 0, 0), (23, .getfield 53, 3, 10, 7, 0), (26, .iload 4, 2, 0, 0, 0), (28, .iload_n 3, 1, 0, 0, 0), (29, .invokevirtual 328, 3, 245, 2, 14), (32, .lshl, 1, 0, 0, 0), (33, .lor, 1, 0, 0, 0), (34, .lstore_n 1, 1, 0, 0, 0), (35, .iinc 4 1, 3, 0, 0, 0), (38, .goto (-25), 3, 0, 0, 0), (41, .iinc 3 1, 3, 0, 0, 0), (44, .goto (-40), 3, 0, 0, 0), (47, .aload_n 0, 1, 0, 0, 0), (48, .lload_n 1, 1, 0, 0, 0), (49, .invokestatic 220, 3, 88, 1, 1), (52, .invokevirtual 191, 3, 90, 1, 20), (55, .ireturn, 1, 0, 0, 0)]
noncomputable def ij_t255 : List (Nat × ij_E) := [(0, .iconst 0, 1, 0, 0, 0), (1, .istore_n 1, 1, 0, 0, 0), (2, .iconst 0, 1, 0, 0, 0), (3, .istore_n 2, 1, 0, 0, 0), (4, .iload_n 2, 1, 0, 0, 0), (5, .aload_n 0, 1, 0, 0, 0), (6, .getfield 7, 3, 11, 0, 0), (9, .iconst 1, 1, 0, 0, 0), (10, .iaload, 1, 0, 0, 0), (11, .if_icmp .ge 26, 3, 0, 0, 0), (14, .iload_n 1, 1, 0, 0, 0), (15, .aload_n 0, 1, 0, 0, 0), (16, .iload_n 2, 1, 0, 0, 0), (17, .invokevirtual 368, 3, 252, 1, 21), (20, .iconst (-1), 1, 0, 0, 0), (21, .if_icmp .ne 7, 3, 0, 0, 0), (24, .iconst 0, 1, 0, 0, 0), (25, .goto 4, 3, 0, 0, 0), (28, .iconst 1, 1, 0, 0, 0), (29, .iadd, 1, 0, 0, 0), (30, .istore_n 1, 1, 0, 0, 0), (31, .iinc 2 1, 3, 0, 0, 0), (34, .goto (-30), 3, 0, 0, 0), (37, .aload_n 0, 1, 0, 0, 0), (38, .iload_n 1, 1, 0, 0, 0), (39, .invokevirtual 122, 3, 115, 1, 21), (42, .ireturn, 1, 0, 0, 0)]
noncomputable def ij_t256 : List (Nat × ij_E) := [(0, .aload_n 0, 1, 0, 0, 0), (1, .getfield 53, 3, 10, 7, 0), (4, .iload_n 1, 1, 0, 0, 0), (5, .invokevirtual 241, 3, 77, 1, 14), (8, .ifCond .ne 9, 3, 0, 0, 0), (11, .aload_n 0, 1, 0, 0, 0), (12, .iconst 1, 1, 0, 0, 0), (13, .invokevirtual 139, 3, 44, 1, 20), (16, .ireturn, 1, 0, 0, 0), (17, .iconst 0, 1, 0, 0, 0), (18, .istore_n 2, 1, 0, 0, 0), (19, .iload_n 2, 1, 0, 0, 0), (20, .bipush 60, 2, 0, 0, 0), (22, .if_icmp .ge 76, 3, 0, 0, 0), (25, .aload_n 0, 1, 0, 0, 0), (26, .getfield 53, 3, 10, 7, 0), (29, .iload_n 1, 1, 0, 0, 0), (30, .iload_n 2, 1, 0, 0, 0), (31, .isub, 1, 0, 0, 0), (32, .invokevirtual 288, 3, 5, 1, 14), (35, .istore_n 3, 1, 0, 0, 0), (36, .aload_n 0, 1, 0, 0, 0), (37, .getfield 53, 3, 10, 7, 0), (40, .iload_n 3, 1, 0, 0, 0), (41, .invokevirtual 244, 3, 155, 1, 14), (44, .ifCond .eq 13, 3, 0, 0, 0), (47, .aload_n 0, 1, 0, 0, 0), (48, .aload_n 0, 1, 0, 0, 0), (49, .iload_n 3, 1, 0, 0, 0), (50, .invokevirtual 247, 3, 156, 1, 20), (53, .invokevirtual 191, 3, 90, 1, 20), (56, .ireturn, 1, 0, 0, 0), (57, .aload_n 0, 1, 0, 0, 0), (58, .getfield 53, 3, 10, 7, 0), (61, .iload_n 1, 1, 0, 0, 0), (62, .iload_n 2, 1, 0, 0, 0), (63, .iadd, 1, 0, 0, 0), (64, .invokevirtual 288, 3, 5, 1, 14), (67, .istore 4, 2, 0, 0, 0), (69, .aload_n 0, 1, 0, 0, 0), (70, .getfield 53, 3, 10, 7, 0), (73, .iload 4, 2, 0, 0, 0), (75, .invokevirtual 244, 3, 155, 1, 14), (78, .ifCond .eq 14, 3, 0, 0, 0), (81, .aload_n 0, 1, 0, 0, 0), (82, .aload_n 0, 1, 0, 0, 0), (83, .iload 4, 2, 0, 0, 0), (85, .invokevirtual 247, 3, 156, 1, 20), (88, .invokevirtual 191, 3, 90, 1, 20), (91, .ireturn, 1, 0, 0, 0), (92, .iinc 2 1, 3, 0, 0, 0), (95, .goto (-76), 3, 0, 0, 0), (98, .aload_n 0, 1, 0, 0, 0), (99, .bipush 6, 2, 0, 0, 0), (101, .invokevirtual 139, 3, 44, 1, 20), (104, .ireturn, 1, 0, 0, 0)]
noncomputable def ij_t257 : List (Nat × ij_E) := [(0, .aload_n 0, 1, 0, 0, 0), (1, .iload_n 1, 1, 0, 0, 0), (2, .invokevirtual 296, 3, 158, 1, 21), (5, .ifCond .ne 9, 3, 0, 0, 0), (8, .aload_n 0, 1, 0, 0, 0), (9, .iconst 1, 1, 0, 0, 0), (10, .invokevirtual 118, 3, 98, 1, 21), (13, .ireturn, 1, 0, 0, 0), (14, .aload_n 0, 1, 0, 0, 0), (15, .invokevirtual 242, 3, 114, 0, 21), (18, .iconst 0, 1, 0, 0, 0), (19, .istore_n 2, 1, 0, 0, 0), (20, .iload_n 2, 1, 0, 0, 0), (21, .aload_n 0, 1, 0, 0, 0), (22, .getfield 7, 3, 11, 0, 0), (25, .iconst 1, 1, 0, 0, 0), (26, .iaload, 1, 0, 0, 0), (27, .if_icmp .ge 70, 3, 0, 0, 0), (30, .aload_n 0, 1, 0, 0, 0), (31, .getfield 50, 3, 11, 24, 0), (34, .iload_n 1, 1, 0, 0, 0), (35, .iload_n 2, 1, 0, 0, 0), (36, .isub, 1, 0, 0, 0), (37, .aload_n 0, 1, 0, 0, 0), (38, .getfield 7, 3, 11, 0, 0), (41, .iconst 1, 1, 0, 0, 0), (42, .iaload, 1, 0, 0, 0), (43, .invokestatic 266, 3, 111, 2, 1), (46, .iaload, 1, 0, 0, 0), (47, .istore_n 3, 1, 0, 0, 0), (48, .aload_n 0, 1, 0, 0, 0), (49, .getfield 50, 3, 11, 24, 0), (52, .iload_n 1, 1, 0, 0, 0), (53, .iload_n 2, 1, 0, 0, 0), (54, .iadd, 1, 0, 0, 0), (55, .aload_n 0, 1, 0, 0, 0), (56, .getfield 7, 3, 11, 0, 0), (59, .iconst 1, 1, 0, 0, 0), (60, .iaload, 1, 0, 0, 0), (61, .invokestatic 266, 3, 111, 2, 1), (64, .iaload, 1, 0, 0, 0), (65, .istore 4, 2, 0, 0, 0), (67, .iload_n 3, 1, 0, 0, 0), (68, .iconst (-1), 1, 0, 0, 0), (69, .if_icmp .eq 9, 3, 0, 0, 0), (72, .aload_n 0, 1, 0, 0, 0), (73, .iload_n 3, 1, 0, 0, 0), (74, .invokevirtual 122, 3, 115, 1, 21), (77, .ireturn, 1, 0, 0, 0), (78, .iload 4, 2, 0, 0, 0), (80, .iconst (-1), 1, 0, 0, 0), (81, .if_icmp .eq 10, 3, 0, 0, 0), (84, .aload_n 0, 1, 0, 0, 0), (85, .iload 4, 2, 0, 0, 0), (87, .invokevirtual 122, 3, 115, 1, 21), (90, .ireturn, 1, 0, 0, 0), (91, .iinc 2 1, 3, 0, 0, 0), (94, .goto (-74), 3, 0, 0, 0), (97, .aload_n 0, 1, 0, 0, 0), (98, .bipush 6, 2, 0, 0, 0), (100, .invokevirtual 118, 3, 98, 1, 21), (103, .ireturn, 1, 0, 0, 0)]
noncomputable def ij_t258 : List (Nat × ij_E) := [(0, .aload_n 0, 1, 0, 0, 0), (1, .aload_n 0, 1, 0, 0, 0), (2, .getfield 53, 3, 10, 7, 0), (5, .invokevirtual 295, 3, 189, 0, 14), (8, .invokevirtual 191, 3, 90, 1, 20), (11, .ireturn, 1, 0, 0, 0)]
noncomputable def ij_t259 : List (Nat × ij_E) := [(0, .aload_n 0, 1, 0, 0, 0), (1, .aload_n 0, 1, 0, 0, 0), (2, .invokevirtual 324, 3, 194, 0, 21), (5, .invokevirtual 122, 3, 115, 1, 21), (8, .ireturn, 1, 0, 0, 0)]
noncomputable def ij_t260 : List (Nat × ij_E) := [(0, .aload_n 0, 1, 0, 0, 0), (1, .getfield 53, 3, 10, 7, 0), (4, .aload_n 0, 1, 0, 0, 0), (5, .getfield 53, 3, 10, 7, 0), (8, .iconst 2, 1, 0, 0, 0), (9, .invokevirtual 209, 3, 135, 1, 14), (12, .iconst 0, 1, 0, 0, 0), (13, .aload_n 0, 1, 0, 0, 0), (14, .getfield 53, 3, 10, 7, 0), (17, .iconst 3, 1, 0, 0, 0), (18, .invokevirtual 209, 3, 135, 1, 14), (21, .invokevirtual 331, 3, 8, 3, 14), (24, .lstore_n 1, 1, 0, 0, 0), (25, .iconst 0, 1, 0, 0, 0), (26, .istore_n 3, 1, 0, 0, 0), (27, .iconst (-1), 1, 0, 0, 0), (28, .istore 4, 2, 0, 0, 0), (30, .iconst 0, 1, 0, 0, 0), (31, .istore 5, 2, 0, 0, 0), (33, .iload 5, 2, 0, 0, 0), (35, .aload_n 0, 1, 0, 0, 0), (36, .getfield 53, 3, 10, 7, 0), (39, .invokevirtual 266, 3, 80, 0, 14), (42, .if_icmp .ge 49, 3, 0, 0, 0), (45, .lload_n 1, 1, 0, 0, 0), (46, .iload 5, 2, 0, 0, 0), (48, .aload_n 0, 1, 0, 0, 0), (49, .getfield 53, 3, 10, 7, 0), (52, .invokevirtual 266, 3, 80, 0, 14), (55, .invokestatic 291, 3, 188, 3, 1), (58, .aload_n 0, 1, 0, 0, 0), (59, .getfield 53, 3, 10, 7, 0), (62, .getfield 226, 3, 4, 3, 0), (65, .land, 1, 0, 0, 0), (66, .invokestatic 220, 3, 88, 1, 1), (69, .istore 6, 2, 0, 0, 0), (71, .iload 6, 2, 0, 0, 0), (73, .iload 4, 2, 0, 0, 0), (75, .if_icmp .le 10, 3, 0, 0, 0), (78, .iload 6, 2, 0, 0, 0), (80, .istore 4, 2, 0, 0, 0), (82, .iload 5, 2, 0, 0, 0), (84, .istore_n 3, 1, 0, 0, 0), (85, .iinc 5 1, 3, 0, 0, 0), (88, .goto (-55), 3, 0, 0, 0), (91, .aload_n 0, 1, 0, 0, 0), (92, .iload_n 3, 1, 0, 0, 0), (93, .invokevirtual 191, 3, 90, 1, 20), (96, .ireturn, 1, 0, 0, 0)]
noncomputable def ij_t261 : List (Nat × ij_E) := [(0, .iconst 0, 1, 0, 0, 0), (1, .istore_n 1, 1, 0, 0, 0), (2, .iconst (-1), 1, 0, 0, 0), (3, .istore_n 2, 1, 0, 0, 0), (4, .iconst 0, 1, 0, 0, 0), (5, .istore_n 3, 1, 0, 0, 0), (6, .iload_n 3, 1, 0, 0, 0), (7, .aload_n 0, 1, 0, 0, 0), (8, .getfield 7, 3, 11, 0, 0), (11, .iconst 1, 1, 0, 0, 0), (12, .iaload, 1, 0, 0, 0), (13, .if_icmp .ge 38, 3, 0, 0, 0), (16, .aload_n 0, 1, 0, 0, 0), (17, .aload_n 0, 1, 0, 0, 0), (18, .getfield 7, 3, 11, 0, 0), (21, .iconst 2, 1, 0, 0, 0), (22, .iaload, 1, 0, 0, 0), (23, .iload_n 3, 1, 0, 0, 0), (24, .invokevirtual 371, 3, 192, 2, 21), (27, .aload_n 0, 1, 0, 0, 0), (28, .invokevirtual 374, 3, 193, 0, 21), (31, .iload_n 2, 1, 0, 0, 0), (32, .if_icmp .gt 6, 3, 0, 0, 0), (35, .goto 10, 3, 0, 0, 0), (38, .aload_n 0, 1, 0, 0, 0), (39, .invokevirtual 374, 3, 193, 0, 21), (42, .istore_n 2, 1, 0, 0, 0), (43, .iload_n 3, 1, 0, 0, 0), (44, .istore_n 1, 1, 0, 0, 0), (45, .iinc 3 1, 3, 0, 0, 0), (48, .goto (-42), 3, 0, 0, 0), (51, .aload_n 0, 1, 0, 0, 0), (52, .iload_n 1, 1, 0, 0, 0), (53, .invokevirtual 122, 3, 115, 1, 21), (56, .ireturn, 1, 0, 0, 0)]
noncomputable def ij_t262 : List (Nat × ij_E) := [(0, .aload_n 0, 1, 0, 0, 0), (1, .iload_n 1, 1, 0, 0, 0), (2, .iconst 0, 1, 0, 0, 0), (3, .aload_n 0, 1, 0, 0, 0), (4, .iconst 3, 1, 0, 0, 0), (5, .invokevirtual 35, 3, 135, 1, 14), (8, .invokevirtual 39, 3, 8, 3, 14), (11, .lstore_n 2, 1, 0, 0, 0), (12, .lconst 0, 1, 0, 0, 0), (13, .lstore 4, 2, 0, 0, 0), (15, .iconst 0, 1, 0, 0, 0), (16, .istore 6, 2, 0, 0, 0), (18, .iload 6, 2, 0, 0, 0), (20, .aload_n 0, 1, 0, 0, 0), (21, .invokevirtual 19, 3, 80, 0, 14), (24, .if_icmp .ge 48, 3, 0, 0, 0), (27, .lload_n 2, 1, 0, 0, 0), (28, .iload 6, 2, 0, 0, 0), (30, .aload_n 0, 1, 0, 0, 0), (31, .invokevirtual 19, 3, 80, 0, 14), (34, .invokestatic 43, 3, 188, 3, 1), (37, .lstore 7, 2, 0, 0, 0), (39, .lload 4, 2, 0, 0, 0), (41, .aload_n 0, 1, 0, 0, 0), (42, .getfield 47, 3, 4, 3, 0), (45, .lload 7, 2, 0, 0, 0), (47, .ldc2_w 50, 3, 0, 18446744073709551615, 0), (50, .lxor, 1, 0, 0, 0), (51, .land, 1, 0, 0, 0), (52, .lconst 0, 1, 0, 0, 0), (53, .lcmp, 1, 0, 0, 0), (54, .ifCond .ne 8, 3, 0, 0, 0), (57, .lload 7, 2, 0, 0, 0), (59, .goto 4, 3, 0, 0, 0), (62, .lconst 0, 1, 0, 0, 0), (63, .lor, 1, 0, 0, 0), (64, .lstore 4, 2, 0, 0, 0), (66, .iinc 6 1, 3, 0, 0, 0), (69, .goto (-51), 3, 0, 0, 0), (72, .lload 4, 2, 0, 0, 0), (74, .lreturn, 1, 0, 0, 0)]
noncomputable def ij_t263 : List (Nat × ij_E) := [(0, .aload_n 0, 1, 0, 0, 0), (1, .lconst 0, 1, 0, 0, 0), (2, .putfield 15, 3, 0, 1, 0), (5, .iconst 0, 1, 0, 0, 0), (6, .istore_n 2, 1, 0, 0, 0), (7, .iload_n 2, 1, 0, 0, 0), (8, .aload_n 1, 1, 0, 0, 0), (9, .invokevirtual 19, 3, 80, 0, 14), (12, .if_icmp .ge 57, 3, 0, 0, 0), (15, .iload_n 2, 1, 0, 0, 0), (16, .aload_n 0, 1, 0, 0, 0), (17, .getfield 9, 3, 0, 0, 0), (20, .arraylength, 1, 0, 0, 0), (21, .if_icmp .ge 48, 3, 0, 0, 0), (24, .aload_n 0, 1, 0, 0, 0), (25, .getfield 9, 3, 0, 0, 0), (28, .iload_n 2, 1, 0, 0, 0), (29, .aload_n 1, 1, 0, 0, 0), (30, .iload_n 2, 1, 0, 0, 0), (31, .invokestatic 25, 3, 262, 2, 1), (34, .lastore, 1, 0, 0, 0), (35, .aload_n 0, 1, 0, 0, 0), (36, .dup, 1, 0, 0, 0), (37, .getfield 15, 3, 0, 1, 0), (40, .aload_n 0, 1, 0, 0, 0), (41, .getfield 9, 3, 0, 0, 0), (44, .iload_n 2, 1, 0, 0, 0), (45, .laload, 1, 0, 0, 0), (46, .lconst 0, 1, 0, 0, 0), (47, .lcmp, 1, 0, 0, 0), (48, .ifCond .eq 10, 3, 0, 0, 0), (51, .iload_n 2, 1, 0, 0, 0), (52, .invokestatic 29, 3, 6, 1, 1), (55, .goto 4, 3, 0, 0, 0), (58, .lconst 0, 1, 0, 0, 0), (59, .lor, 1, 0, 0, 0), (60, .putfield 15, 3, 0, 1, 0), (63, .iinc 2 1, 3, 0, 0, 0), (66, .goto (-59), 3, 0, 0, 0), (69, .return_, 1, 0, 0, 0)]
noncomputable def ij_t264 : List (Nat × ij_E) := [(0, .aload_n 0, 1, 0, 0, 0), (1, .getfield 74, 3, 10, 10, 0), (4, .aload_n 0, 1, 0, 0, 0), (5, .getfield 53, 3, 10, 7, 0), (8, .invokevirtual 335, 3, 263, 1, 10), (11, .aload_n 0, 1, 0, 0, 0), (12, .aload_n 0, 1, 0, 0, 0), (13, .getfield 74, 3, 10, 10, 0), (16, .getfield 338, 3, 0, 1, 0), (19, .invokestatic 220, 3, 88, 1, 1), (22, .invokevirtual 191, 3, 90, 1, 20), (25, .ireturn, 1, 0, 0, 0)]
noncomputable def ij_t265 : List (Nat × ij_E) := [(0, .iconst 0, 1, 0, 0, 0), (1, .istore_n 1, 1, 0, 0, 0), (2, .aload_n 0, 1, 0, 0, 0), (3, .invokevirtual 282, 3, 144, 0, 21), (6, .istore_n 2, 1, 0, 0, 0), (7, .iconst 0, 1, 0, 0, 0), (8, .istore_n 3, 1, 0, 0, 0), (9, .iload_n 3, 1, 0, 0, 0), (10, .sipush 3600, 3, 0, 0, 0), (13, .if_icmp .ge 16, 3, 0, 0, 0), (16, .aload_n 0, 1, 0, 0, 0), (17, .getfield 78, 3, 11, 39, 0), (20, .iload_n 3, 1, 0, 0, 0), (21, .iconst 0, 1, 0, 0, 0), (22, .bastore, 1, 0, 0, 0), (23, .iinc 3 1, 3, 0, 0, 0), (26, .goto (-17), 3, 0, 0, 0), (29, .iconst 0, 1, 0, 0, 0), (30, .istore_n 3, 1, 0, 0, 0), (31, .iload_n 3, 1, 0, 0, 0), (32, .aload_n 0, 1, 0, 0, 0), (33, .getfield 7, 3, 11, 0, 0), (36, .iconst 1, 1, 0, 0, 0), (37, .iaload, 1, 0, 0, 0), (38, .if_icmp .ge 116, 3, 0, 0, 0), (41, .aload_n 0, 1, 0, 0, 0), (42, .getfield 75, 3, 11, 38, 0), (45, .iload_n 3, 1, 0, 0, 0), (46, .iconst 0, 1, 0, 0, 0), (47, .bastore, 1, 0, 0, 0), (48, .iconst 0, 1, 0, 0, 0), (49, .istore 4, 2, 0, 0, 0), (51, .iload 4, 2, 0, 0, 0), (53, .aload_n 0, 1, 0, 0, 0), (54, .getfield 7, 3, 11, 0, 0), (57, .iconst 1, 1, 0, 0, 0), (58, .iaload, 1, 0, 0, 0), (59, .if_icmp .ge 72, 3, 0, 0, 0), (62, .aload_n 0, 1, 0, 0, 0), (63, .iload_n 3, 1, 0, 0, 0), (64, .iload 4, 2, 0, 0, 0), (66, .invokevirtual 371, 3, 192, 2, 21), (69, .aload_n 0, 1, 0, 0, 0), (70, .invokevirtual 374, 3, 193, 0, 21), (73, .iload_n 2, 1, 0, 0, 0), (74, .if_icmp .ge 6, 3, 0, 0, 0), (77, .goto 48, 3, 0, 0, 0), (80, .aload_n 0, 1, 0, 0, 0), (81, .getfield 75, 3, 11, 38, 0), (84, .iload_n 3, 1, 0, 0, 0), (85, .iconst 1, 1, 0, 0, 0), (86, .bastore, 1, 0, 0, 0), (87, .iconst 0, 1, 0, 0, 0), (88, .istore 5, 2, 0, 0, 0), (90, .iload 5, 2, 0, 0, 0), (92, .bipush 60, 2, 0, 0, 0), (94, .if_icmp .ge 31, 3, 0, 0, 0), (97, .aload_n 0, 1, 0, 0, 0), (98, .getfield 78, 3, 11, 39, 0), (101, .bipush 60, 2, 0, 0, 0), (103, .iload_n 3, 1, 0, 0, 0), (104, .imul, 1, 0, 0, 0), (105, .iload 5, 2, 0, 0, 0), (107, .iadd, 1, 0, 0, 0), (108, .dup2, 1, 0, 0, 0), (109, .baload, 1, 0, 0, 0), (110, .aload_n 0, 1, 0, 0, 0), (111, .getfield 56, 3, 11, 30, 0), (114, .iload 5, 2, 0, 0, 0), (116, .baload, 1, 0, 0, 0), (117, .ior, 1, 0, 0, 0), (118, .bastore, 1, 0, 0, 0), (119, .iinc 5 1, 3, 0, 0, 0), (122, .goto (-32), 3, 0, 0, 0), (125, .iinc 4 1, 3, 0, 0, 0), (128, .goto (-77), 3, 0, 0, 0), (131, .iload_n 1, 1, 0, 0, 0), (132, .aload_n 0, 1, 0, 0, 0), (133, .getfield 75, 3, 11, 38, 0), (136, .iload_n 3, 1, 0, 0, 0), (137, .baload, 1, 0, 0, 0), (138, .ifCond .eq 7, 3, 0, 0, 0), (141, .iconst 1, 1, 0, 0, 0), (142, .goto 4, 3, 0, 0, 0), (145, .iconst 0, 1, 0, 0, 0), (146, .iadd, 1, 0, 0, 0), (147, .istore_n 1, 1, 0, 0, 0), (148, .iinc 3 1, 3, 0, 0, 0), (151, .goto (-120), 3, 0, 0, 0), (154, .iload_n 1, 1, 0, 0, 0), (155, .ireturn, 1, 0, 0, 0)]
noncomputable def ij_t266 : List (Nat × ij_E) := [(0, .aload_n 0, 1, 0, 0, 0), (1, .aload_n 0, 1, 0, 0, 0), (2, .invokevirtual 394, 3, 265, 0, 21), (5, .invokevirtual 122, 3, 115, 1, 21), (8, .ireturn, 1, 0, 0, 0)]
noncomputable def ij_t267 : List (Nat × ij_E) := [(0, .aload_n 0, 1, 0, 0, 0), (1, .getfield 74, 3, 10, 10, 0), (4, .aload_n 0, 1, 0, 0, 0), (5, .getfield 53, 3, 10, 7, 0), (8, .invokevirtual 335, 3, 263, 1, 10), (11, .aload_n 0, 1, 0, 0, 0), (12, .aload_n 0, 1, 0, 0, 0), (13, .getfield 74, 3, 10, 10, 0), (16, .getfield 338, 3, 0, 1, 0), (19, .iload_n 1, 1, 0, 0, 0), (20, .invokestatic 254, 3, 166, 2, 1), (23, .invokevirtual 260, 3, 167, 1, 20), (26, .ireturn, 1, 0, 0, 0)]
noncomputable def ij_t268 : List (Nat × ij_E) := [(0, .aload_n 0, 1, 0, 0, 0), (1, .invokevirtual 394, 3, 265, 0, 21), (4, .pop, 1, 0, 0, 0), (5, .iconst 0, 1, 0, 0, 0), (6, .istore_n 2, 1, 0, 0, 0), (7, .iconst 0, 1, 0, 0, 0), (8, .istore_n 3, 1, 0, 0, 0), (9, .iload_n 3, 1, 0, 0, 0), (10, .aload_n 0, 1, 0, 0, 0), (11, .getfield 7, 3, 11, 0, 0), (14, .iconst 1, 1, 0, 0, 0), (15, .iaload, 1, 0, 0, 0), (16, .if_icmp .ge 35, 3, 0, 0, 0), (19, .aload_n 0, 1, 0, 0, 0), (20, .getfield 75, 3, 11, 38, 0), (23, .iload_n 3, 1, 0, 0, 0), (24, .baload, 1, 0, 0, 0), (25, .ifCond .ne 6, 3, 0, 0, 0), (28, .goto 17, 3, 0, 0, 0), (31, .iload_n 2, 1, 0, 0, 0), (32, .iload_n 1, 1, 0, 0, 0), (33, .if_icmp .ne 9, 3, 0, 0, 0), (36, .aload_n 0, 1, 0, 0, 0), (37, .iload_n 3, 1, 0, 0, 0), (38, .invokevirtual 122, 3, 115, 1, 21), (41, .ireturn, 1, 0, 0, 0), (42, .iinc 2 1, 3, 0, 0, 0), (45, .iinc 3 1, 3, 0, 0, 0), (48, .goto (-39), 3, 0, 0, 0), (51, .aload_n 0, 1, 0, 0, 0), (52, .bipush 6, 2, 0, 0, 0), (54, .invokevirtual 118, 3, 98, 1, 21), (57, .ireturn, 1, 0, 0, 0)]
noncomputable def ij_t269 : List (Nat × ij_E) := [(0, .iconst 0, 1, 0, 0, 0), (1, .istore_n 3, 1, 0, 0, 0), (2, .iconst 0, 1, 0, 0, 0), (3, .istore 4, 2, 0, 0, 0), (5, .iload 4, 2, 0, 0, 0), (7, .iload_n 2, 1, 0, 0, 0), (8, .if_icmp .ge 41, 3, 0, 0, 0), (11, .iload 4, 2, 0, 0, 0), (13, .aload_n 0, 1, 0, 0, 0), (14, .getfield 9, 3, 0, 0, 0), (17, .arraylength, 1, 0, 0, 0), (18, .if_icmp .ge 31, 3, 0, 0, 0), (21, .iload_n 3, 1, 0, 0, 0), (22, .aload_n 0, 1, 0, 0, 0), (23, .getfield 9, 3, 0, 0, 0), (26, .iload 4, 2, 0, 0, 0), (28, .laload, 1, 0, 0, 0), (29, .iload_n 1, 1, 0, 0, 0), (30, .invokestatic 58, 3, 74, 2, 1), (33, .ifCond .eq 7, 3, 0, 0, 0), (36, .iconst 1, 1, 0, 0, 0), (37, .goto 4, 3, 0, 0, 0), (40, .iconst 0, 1, 0, 0, 0), (41, .iadd, 1, 0, 0, 0), (42, .istore_n 3, 1, 0, 0, 0), (43, .iinc 4 1, 3, 0, 0, 0), (46, .goto (-41), 3, 0, 0, 0), (49, .iload_n 3, 1, 0, 0, 0), (50, .ireturn, 1, 0, 0, 0)]
noncomputable def ij_t270 : List (Nat × ij_E) := [(0, .iload_n 0, 1, 0, 0, 0), (1, .iload_n 1, 1, 0, 0, 0), (2, .if_icmp .lt 7, 3, 0, 0, 0), (5, .iload_n 0, 1, 0, 0, 0), (6, .goto 4, 3, 0, 0, 0), (9, .iload_n 1, 1, 0, 0, 0), (10, .ireturn, 1, 0, 0, 0)]
noncomputable def ij_t271 : List (Nat × ij_E) := [(0, .aload_n 0, 1, 0, 0, 0), (1, .getfield 15, 3, 0, 1, 0), (4, .invokestatic 52, 3, 88, 1, 1), (7, .istore_n 2, 1, 0, 0, 0), (8, .iconst (-1), 1, 0, 0, 0), (9, .istore_n 3, 1, 0, 0, 0), (10, .iload_n 2, 1, 0, 0, 0), (11, .iconst 1, 1, 0, 0, 0), (12, .iadd, 1, 0, 0, 0), (13, .istore 4, 2, 0, 0, 0), (15, .iconst 0, 1, 0, 0, 0), (16, .istore 5, 2, 0, 0, 0), (18, .iload 5, 2, 0, 0, 0), (20, .aload_n 1, 1, 0, 0, 0), (21, .invokevirtual 19, 3, 80, 0, 14), (24, .if_icmp .ge 63, 3, 0, 0, 0), (27, .iload_n 2, 1, 0, 0, 0), (28, .iconst 1, 1, 0, 0, 0), (29, .if_icmp .le 58, 3, 0, 0, 0), (32, .aload_n 1, 1, 0, 0, 0), (33, .getfield 47, 3, 4, 3, 0), (36, .iload 5, 2, 0, 0, 0), (38, .invokestatic 58, 3, 74, 2, 1), (41, .ifCond .ne 40, 3, 0, 0, 0), (44, .aload_n 0, 1, 0, 0, 0), (45, .iload 5, 2, 0, 0, 0), (47, .aload_n 1, 1, 0, 0, 0), (48, .invokevirtual 19, 3, 80, 0, 14), (51, .invokevirtual 62, 3, 269, 2, 10), (54, .istore 6, 2, 0, 0, 0), (56, .iload 6, 2, 0, 0, 0), (58, .iload_n 2, 1, 0, 0, 0), (59, .iload 6, 2, 0, 0, 0), (61, .isub, 1, 0, 0, 0), (62, .invokestatic 66, 3, 270, 2, 1), (65, .istore 7, 2, 0, 0, 0), (67, .iload 7, 2, 0, 0, 0), (69, .iload 4, 2, 0, 0, 0), (71, .if_icmp .ge 10, 3, 0, 0, 0), (74, .iload 7, 2, 0, 0, 0), (76, .istore 4, 2, 0, 0, 0), (78, .iload 5, 2, 0, 0, 0), (80, .istore_n 3, 1, 0, 0, 0), (81, .iinc 5 1, 3, 0, 0, 0), (84, .goto (-66), 3, 0, 0, 0), (87, .iload_n 3, 1, 0, 0, 0), (88, .ireturn, 1, 0, 0, 0)]
noncomputable def ij_t272 : List (Nat × ij_E) := [(0, .aload_n 0, 1, 0, 0, 0), (1, .getfield 74, 3, 10, 10, 0), (4, .aload_n 0, 1, 0, 0, 0), (5, .getfield 53, 3, 10, 7, 0), (8, .invokevirtual 335, 3, 263, 1, 10), (11, .aload_n 0, 1, 0, 0, 0), (12, .aload_n 0, 1, 0, 0, 0), (13, .getfield 74, 3, 10, 10, 0), (16, .aload_n 0, 1, 0, 0, 0), (17, .getfield 53, 3, 10, 7, 0), (20, .invokevirtual 341, 3, 271, 1, 10), (23, .invokevirtual 260, 3, 167, 1, 20), (26, .ireturn, 1, 0, 0, 0)]
noncomputable def ij_t273 : List (Nat × ij_E) := [(0, .aload_n 0, 1, 0, 0, 0), (1, .invokevirtual 394, 3, 265, 0, 21), (4, .istore_n 1, 1, 0, 0, 0), (5, .iconst (-1), 1, 0, 0, 0), (6, .istore_n 2, 1, 0, 0, 0), (7, .iconst 0, 1, 0, 0, 0), (8, .istore_n 3, 1, 0, 0, 0), (9, .iconst 0, 1, 0, 0, 0), (10, .istore 4, 2, 0, 0, 0), (12, .iload 4, 2, 0, 0, 0), (14, .aload_n 0, 1, 0, 0, 0), (15, .getfield 7, 3, 11, 0, 0), (18, .iconst 1, 1, 0, 0, 0), (19, .iaload, 1, 0, 0, 0), (20, .if_icmp .ge 107, 3, 0, 0, 0), (23, .iload_n 1, 1, 0, 0, 0), (24, .iconst 1, 1, 0, 0, 0), (25, .if_icmp .le 102, 3, 0, 0, 0), (28, .aload_n 0, 1, 0, 0, 0), (29, .iload 4, 2, 0, 0, 0), (31, .invokevirtual 279, 3, 143, 1, 21), (34, .iconst 1, 1, 0, 0, 0), (35, .if_icmp .ne 6, 3, 0, 0, 0), (38, .goto 83, 3, 0, 0, 0), (41, .iconst 0, 1, 0, 0, 0), (42, .istore 5, 2, 0, 0, 0), (44, .iconst 0, 1, 0, 0, 0), (45, .istore 6, 2, 0, 0, 0), (47, .iload 6, 2, 0, 0, 0), (49, .aload_n 0, 1, 0, 0, 0), (50, .getfield 7, 3, 11, 0, 0), (53, .iconst 1, 1, 0, 0, 0), (54, .iaload, 1, 0, 0, 0), (55, .if_icmp .ge 35, 3, 0, 0, 0), (58, .iload 5, 2, 0, 0, 0), (60, .aload_n 0, 1, 0, 0, 0), (61, .getfield 78, 3, 11, 39, 0), (64, .bipush 60, 2, 0, 0, 0), (66, .iload 6, 2, 0, 0, 0), (68, .imul, 1, 0, 0, 0), (69, .iload 4, 2, 0, 0, 0), (71, .iadd, 1, 0, 0, 0), (72, .baload, 1, 0, 0, 0), (73, .ifCond .eq 7, 3, 0, 0, 0), (76, .iconst 1, 1, 0, 0, 0), (77, .goto 4, 3, 0, 0, 0), (80, .iconst 0, 1, 0, 0, 0), (81, .iadd, 1, 0, 0, 0), (82, .istore 5, 2, 0, 0, 0), (84, .iinc 6 1, 3, 0, 0, 0), (87, .goto (-40), 3, 0, 0, 0), (90, .iload 5, 2, 0, 0, 0), (92, .iload_n 1, 1, 0, 0, 0), (93, .iload 5, 2, 0, 0, 0), (95, .isub, 1, 0, 0, 0), (96, .invokestatic 397, 3, 270, 2, 1), (99, .istore 6, 2, 0, 0, 0), (101, .iload_n 2, 1, 0, 0, 0), (102, .iconst (-1), 1, 0, 0, 0), (103, .if_icmp .eq 12, 3, 0, 0, 0), (106, .iload 6, 2, 0, 0, 0), (108, .iload_n 3, 1, 0, 0, 0), (109, .if_icmp .lt 6, 3, 0, 0, 0), (112, .goto 9, 3, 0, 0, 0), (115, .iload 4, 2, 0, 0, 0), (117, .istore_n 2, 1, 0, 0, 0), (118, .iload 6, 2, 0, 0, 0), (120, .istore_n 3, 1, 0, 0, 0), (121, .iinc 4 1, 3, 0, 0, 0), (124, .goto (-112), 3, 0, 0, 0), (127, .aload_n 0, 1, 0, 0, 0), (128, .iload_n 2, 1, 0, 0, 0), (129, .invokevirtual 299, 3, 159, 1, 21), (132, .ireturn, 1, 0, 0, 0)]
noncomputable def ij_t274 : List (Nat × ij_E) := [(0, .aload_n 0, 1, 0, 0, 0), (1, .getfield 53, 3, 10, 7, 0), (4, .iload_n 1, 1, 0, 0, 0), (5, .invokevirtual 241, 3, 77, 1, 14), (8, .ifCond .ne 9, 3, 0, 0, 0), (11, .aload_n 0, 1, 0, 0, 0), (12, .iconst 1, 1, 0, 0, 0), (13, .invokevirtual 139, 3, 44, 1, 20), (16, .ireturn, 1, 0, 0, 0), (17, .aload_n 0, 1, 0, 0, 0), (18, .getfield 53, 3, 10, 7, 0), (21, .aload_n 0, 1, 0, 0, 0), (22, .getfield 53, 3, 10, 7, 0), (25, .iconst 2, 1, 0, 0, 0), (26, .invokevirtual 209, 3, 135, 1, 14), (29, .iload_n 1, 1, 0, 0, 0), (30, .aload_n 0, 1, 0, 0, 0), (31, .getfield 53, 3, 10, 7, 0), (34, .iconst 3, 1, 0, 0, 0), (35, .invokevirtual 209, 3, 135, 1, 14), (38, .invokevirtual 331, 3, 8, 3, 14), (41, .lstore_n 2, 1, 0, 0, 0), (42, .aload_n 0, 1, 0, 0, 0), (43, .aload_n 0, 1, 0, 0, 0), (44, .getfield 53, 3, 10, 7, 0), (47, .getfield 285, 3, 4, 4, 0), (50, .lload_n 2, 1, 0, 0, 0), (51, .land, 1, 0, 0, 0), (52, .invokestatic 220, 3, 88, 1, 1), (55, .invokevirtual 191, 3, 90, 1, 20), (58, .ireturn, 1, 0, 0, 0)]
noncomputable def ij_t275 : List (Nat × ij_E) := [(0, .aload_n 0, 1, 0, 0, 0), (1, .iload_n 1, 1, 0, 0, 0), (2, .invokevirtual 296, 3, 158, 1, 21), (5, .ifCond .ne 9, 3, 0, 0, 0), (8, .aload_n 0, 1, 0, 0, 0), (9, .iconst 1, 1, 0, 0, 0), (10, .invokevirtual 118, 3, 98, 1, 21), (13, .ireturn, 1, 0, 0, 0), (14, .iconst 0, 1, 0, 0, 0), (15, .istore_n 2, 1, 0, 0, 0), (16, .aload_n 0, 1, 0, 0, 0), (17, .invokevirtual 242, 3, 114, 0, 21), (20, .aload_n 0, 1, 0, 0, 0), (21, .aload_n 0, 1, 0, 0, 0), (22, .getfield 7, 3, 11, 0, 0), (25, .iconst 2, 1, 0, 0, 0), (26, .iaload, 1, 0, 0, 0), (27, .iload_n 1, 1, 0, 0, 0), (28, .invokevirtual 371, 3, 192, 2, 21), (31, .iconst 0, 1, 0, 0, 0), (32, .istore_n 3, 1, 0, 0, 0), (33, .iload_n 3, 1, 0, 0, 0), (34, .aload_n 0, 1, 0, 0, 0), (35, .getfield 245, 3, 11, 26, 0), (38, .if_icmp .ge 31, 3, 0, 0, 0), (41, .iload_n 2, 1, 0, 0, 0), (42, .aload_n 0, 1, 0, 0, 0), (43, .getfield 56, 3, 11, 30, 0), (46, .aload_n 0, 1, 0, 0, 0), (47, .getfield 44, 3, 11, 22, 0), (50, .iload_n 3, 1, 0, 0, 0), (51, .iaload, 1, 0, 0, 0), (52, .baload, 1, 0, 0, 0), (53, .ifCond .eq 7, 3, 0, 0, 0), (56, .iconst 1, 1, 0, 0, 0), (57, .goto 4, 3, 0, 0, 0), (60, .iconst 0, 1, 0, 0, 0), (61, .iadd, 1, 0, 0, 0), (62, .istore_n 2, 1, 0, 0, 0), (63, .iinc 3 1, 3, 0, 0, 0), (66, .goto (-33), 3, 0, 0, 0), (69, .aload_n 0, 1, 0, 0, 0), (70, .iload_n 2, 1, 0, 0, 0), (71, .invokevirtual 122, 3, 115, 1, 21), (74, .ireturn, 1, 0, 0, 0)]
noncomputable def ij_t276 : List (Nat × ij_E) := [(0, .iload_n 1, 1, 0, 0, 0), (1, .ifCond .lt 23, 3, 0, 0, 0), (4, .iload_n 1, 1, 0, 0, 0), (5, .bipush 7, 2, 0, 0, 0), (7, .if_icmp .ge 17, 3, 0, 0, 0), (10, .iload_n 2, 1, 0, 0, 0), (11, .ifCond .lt 13, 3, 0, 0, 0), (14, .iload_n 2, 1, 0, 0, 0), (15, .bipush 7, 2, 0, 0, 0), (17, .if_icmp .ge 7, 3, 0, 0, 0), (20, .iconst 1, 1, 0, 0, 0), (21, .goto 4, 3, 0, 0, 0), (24, .iconst 0, 1, 0, 0, 0), (25, .istore_n 3, 1, 0, 0, 0), (26, .iload_n 3, 1, 0, 0, 0), (27, .ifCond .eq 22, 3, 0, 0, 0), (30, .aload_n 0, 1, 0, 0, 0), (31, .getfield 9, 3, 9, 0, 0), (34, .iload_n 1, 1, 0, 0, 0), (35, .iaload, 1, 0, 0, 0), (36, .aload_n 0, 1, 0, 0, 0), (37, .getfield 9, 3, 9, 0, 0), (40, .iload_n 2, 1, 0, 0, 0), (41, .iaload, 1, 0, 0, 0), (42, .isub, 1, 0, 0, 0), (43, .invokestatic 60, 3, 239, 1, 1), (46, .goto 4, 3, 0, 0, 0), (49, .iconst 0, 1, 0, 0, 0), (50, .istore 4, 2, 0, 0, 0), (52, .iload 4, 2, 0, 0, 0), (54, .aload_n 0, 1, 0, 0, 0), (55, .getfield 21, 3, 9, 4, 0), (58, .iload 4, 2, 0, 0, 0), (60, .isub, 1, 0, 0, 0), (61, .invokestatic 52, 3, 95, 2, 1), (64, .ireturn, 1, 0, 0, 0)]
noncomputable def ij_t277 : List (Nat × ij_E) := [(0, .iload_n 1, 1, 0, 0, 0), (1, .bipush 7, 2, 0, 0, 0), (3, .imul, 1, 0, 0, 0), (4, .iload_n 2, 1, 0, 0, 0), (5, .iadd, 1, 0, 0, 0), (6, .istore_n 3, 1, 0, 0, 0), (7, .iload_n 3, 1, 0, 0, 0), (8, .ifCond .lt 21, 3, 0, 0, 0), (11, .iload_n 3, 1, 0, 0, 0), (12, .aload_n 0, 1, 0, 0, 0), (13, .getfield 18, 3, 9, 2, 0), (16, .arraylength, 1, 0, 0, 0), (17, .if_icmp .ge 12, 3, 0, 0, 0), (20, .aload_n 0, 1, 0, 0, 0), (21, .getfield 18, 3, 9, 2, 0), (24, .iload_n 3, 1, 0, 0, 0), (25, .iaload, 1, 0, 0, 0), (26, .goto 4, 3, 0, 0, 0), (29, .iconst 0, 1, 0, 0, 0), (30, .ireturn, 1, 0, 0, 0)]
noncomputable def ij_t278 : List (Nat × ij_E) := [(0, .aload_n 0, 1, 0, 0, 0), (1, .iload_n 2, 1, 0, 0, 0), (2, .iload_n 3, 1, 0, 0, 0), (3, .invokevirtual 57, 3, 276, 2, 19), (6, .aload_n 0, 1, 0, 0, 0), (7, .iload_n 1, 1, 0, 0, 0), (8, .iconst 1, 1, 0, 0, 0), (9, .iload_n 3, 1, 0, 0, 0), (10, .ishl, 1, 0, 0, 0), (11, .ior, 1, 0, 0, 0), (12, .iload_n 3, 1, 0, 0, 0), (13, .invokevirtual 45, 3, 277, 2, 19), (16, .iadd, 1, 0, 0, 0), (17, .ireturn, 1, 0, 0, 0)]
noncomputable def ij_t279 : List (Nat × ij_E) := [(0, .iconst (-1), 1, 0, 0, 0), (1, .istore_n 3, 1, 0, 0, 0), (2, .iconst 0, 1, 0, 0, 0), (3, .istore 4, 2, 0, 0, 0), (5, .iload 4, 2, 0, 0, 0), (7, .aload_n 0, 1, 0, 0, 0), (8, .getfield 25, 3, 9, 3, 0), (11, .if_icmp .ge 46, 3, 0, 0, 0), (14, .iload_n 1, 1, 0, 0, 0), (15, .i2l, 1, 0, 0, 0), (16, .iload 4, 2, 0, 0, 0), (18, .invokestatic 28, 3, 74, 2, 1), (21, .ifCond .ne 30, 3, 0, 0, 0), (24, .aload_n 0, 1, 0, 0, 0), (25, .iload_n 1, 1, 0, 0, 0), (26, .iload_n 2, 1, 0, 0, 0), (27, .iload 4, 2, 0, 0, 0), (29, .invokevirtual 48, 3, 278, 3, 19), (32, .istore 5, 2, 0, 0, 0), (34, .iload_n 3, 1, 0, 0, 0), (35, .iconst (-1), 1, 0, 0, 0), (36, .if_icmp .ne 8, 3, 0, 0, 0), (39, .iload 5, 2, 0, 0, 0), (41, .goto 9, 3, 0, 0, 0), (44, .iload_n 3, 1, 0, 0, 0), (45, .iload 5, 2, 0, 0, 0), (47, .invokestatic 52, 3, 95, 2, 1), (50, .istore_n 3, 1, 0, 0, 0), (51, .iinc 4 1, 3, 0, 0, 0), (54, .goto (-49), 3, 0, 0, 0), (57, .iload_n 3, 1, 0, 0, 0), (58, .iconst (-1), 1, 0, 0, 0), (59, .if_icmp .ne 7, 3, 0, 0, 0), (62, .iconst 0, 1, 0, 0, 0), (63, .goto 4, 3, 0, 0, 0), (66, .iload_n 3, 1, 0, 0, 0), (67, .ireturn, 1, 0, 0, 0)]
noncomputable def ij_t280 : List (Nat × ij_E) := [(0, .iload_n 1, 1, 0, 0, 0), (1, .bipush 7, 2, 0, 0, 0), (3, .imul, 1, 0, 0, 0), (4, .iload_n 2, 1, 0, 0, 0), (5, .iadd, 1, 0, 0, 0), (6, .istore 4, 2, 0, 0, 0), (8, .iload 4, 2, 0, 0, 0), (10, .ifCond .lt 21, 3, 0, 0, 0), (13, .iload 4, 2, 0, 0, 0), (15, .aload_n 0, 1, 0, 0, 0), (16, .getfield 18, 3, 9, 2, 0), (19, .arraylength, 1, 0, 0, 0), (20, .if_icmp .ge 11, 3, 0, 0, 0), (23, .aload_n 0, 1, 0, 0, 0), (24, .getfield 18, 3, 9, 2, 0), (27, .iload 4, 2, 0, 0, 0), (29, .iload_n 3, 1, 0, 0, 0), (30, .iastore, 1, 0, 0, 0), (31, .return_, 1, 0, 0, 0)]
noncomputable def ij_t281 : List (Nat × ij_E) := [(0, .iconst 1, 1, 0, 0, 0), (1, .istore_n 1, 1, 0, 0, 0), (2, .iconst 0, 1, 0, 0, 0), (3, .istore_n 2, 1, 0, 0, 0), (4, .aload_n 0, 1, 0, 0, 0), (5, .getfield 15, 3, 9, 1, 0), (8, .iconst 0, 1, 0, 0, 0), (9, .aload_n 0, 1, 0, 0, 0), (10, .getfield 9, 3, 9, 0, 0), (13, .iconst 0, 1, 0, 0, 0), (14, .iaload, 1, 0, 0, 0), (15, .iastore, 1, 0, 0, 0), (16, .iconst 1, 1, 0, 0, 0), (17, .istore_n 3, 1, 0, 0, 0), (18, .iload_n 3, 1, 0, 0, 0), (19, .aload_n 0, 1, 0, 0, 0), (20, .getfield 25, 3, 9, 3, 0), (23, .if_icmp .ge 79, 3, 0, 0, 0), (26, .iconst 0, 1, 0, 0, 0), (27, .istore 4, 2, 0, 0, 0), (29, .iload 4, 2, 0, 0, 0), (31, .aload_n 0, 1, 0, 0, 0), (32, .getfield 25, 3, 9, 3, 0), (35, .iconst 1, 1, 0, 0, 0), (36, .isub, 1, 0, 0, 0), (37, .if_icmp .ge 36, 3, 0, 0, 0), (40, .iload_n 1, 1, 0, 0, 0), (41, .i2l, 1, 0, 0, 0), (42, .iload 4, 2, 0, 0, 0), (44, .invokestatic 28, 3, 74, 2, 1), (47, .ifCond .ne 20, 3, 0, 0, 0), (50, .aload_n 0, 1, 0, 0, 0), (51, .iload_n 1, 1, 0, 0, 0), (52, .iload_n 2, 1, 0, 0, 0), (53, .iload 4, 2, 0, 0, 0), (55, .invokevirtual 48, 3, 278, 3, 19), (58, .aload_n 0, 1, 0, 0, 0), (59, .iload_n 1, 1, 0, 0, 0), (60, .iload_n 2, 1, 0, 0, 0), (61, .invokevirtual 45, 3, 277, 2, 19), (64, .if_icmp .eq 9, 3, 0, 0, 0), (67, .iinc 4 1, 3, 0, 0, 0), (70, .goto (-41), 3, 0, 0, 0), (73, .aload_n 0, 1, 0, 0, 0), (74, .getfield 15, 3, 9, 1, 0), (77, .iload_n 3, 1, 0, 0, 0), (78, .aload_n 0, 1, 0, 0, 0), (79, .getfield 9, 3, 9, 0, 0), (82, .iload 4, 2, 0, 0, 0), (84, .iaload, 1, 0, 0, 0), (85, .iastore, 1, 0, 0, 0), (86, .iload_n 1, 1, 0, 0, 0), (87, .iconst 1, 1, 0, 0, 0), (88, .iload 4, 2, 0, 0, 0), (90, .ishl, 1, 0, 0, 0), (91, .ior, 1, 0, 0, 0), (92, .istore_n 1, 1, 0, 0, 0), (93, .iload 4, 2, 0, 0, 0), (95, .istore_n 2, 1, 0, 0, 0), (96, .iinc 3 1, 3, 0, 0, 0), (99, .goto (-81), 3, 0, 0, 0), (102, .return_, 1, 0, 0, 0)]
noncomputable def ij_t282 : List (Nat × ij_E) := [(0, .aload_n 0, 1, 0, 0, 0), (1, .iload_n 3, 1, 0, 0, 0), (2, .putfield 21, 3, 9, 4, 0), (5, .aload_n 0, 1, 0, 0, 0), (6, .iconst 0, 1, 0, 0, 0), (7, .putfield 25, 3, 9, 3, 0), (10, .iconst 0, 1, 0, 0, 0), (11, .istore 4, 2, 0, 0, 0), (13, .iload 4, 2, 0, 0, 0), (15, .iload_n 3, 1, 0, 0, 0), (16, .if_icmp .ge 48, 3, 0, 0, 0), (19, .aload_n 0, 1, 0, 0, 0), (20, .getfield 25, 3, 9, 3, 0), (23, .bipush 7, 2, 0, 0, 0), (25, .if_icmp .ge 39, 3, 0, 0, 0), (28, .lload_n 1, 1, 0, 0, 0), (29, .iload 4, 2, 0, 0, 0), (31, .invokestatic 28, 3, 74, 2, 1), (34, .ifCond .eq 24, 3, 0, 0, 0), (37, .aload_n 0, 1, 0, 0, 0), (38, .getfield 9, 3, 9, 0, 0), (41, .aload_n 0, 1, 0, 0, 0), (42, .getfield 25, 3, 9, 3, 0), (45, .iload 4, 2, 0, 0, 0), (47, .iastore, 1, 0, 0, 0), (48, .aload_n 0, 1, 0, 0, 0), (49, .dup, 1, 0, 0, 0), (50, .getfield 25, 3, 9, 3, 0), (53, .iconst 1, 1, 0, 0, 0), (54, .iadd, 1, 0, 0, 0), (55, .putfield 25, 3, 9, 3, 0), (58, .iinc 4 1, 3, 0, 0, 0), (61, .goto (-48), 3, 0, 0, 0), (64, .iconst 1, 1, 0, 0, 0), (65, .aload_n 0, 1, 0, 0, 0), (66, .getfield 25, 3, 9, 3, 0), (69, .ishl, 1, 0, 0, 0), (70, .iconst 1, 1, 0, 0, 0), (71, .isub, 1, 0, 0, 0), (72, .istore 4, 2, 0, 0, 0), (74, .iload 4, 2, 0, 0, 0), (76, .ifCond .le 43, 3, 0, 0, 0), (79, .iconst 0, 1, 0, 0, 0), (80, .istore 5, 2, 0, 0, 0), (82, .iload 5, 2, 0, 0, 0), (84, .aload_n 0, 1, 0, 0, 0), (85, .getfield 25, 3, 9, 3, 0), (88, .if_icmp .ge 25, 3, 0, 0, 0), (91, .aload_n 0, 1, 0, 0, 0), (92, .iload 4, 2, 0, 0, 0), (94, .iload 5, 2, 0, 0, 0), (96, .aload_n 0, 1, 0, 0, 0), (97, .iload 4, 2, 0, 0, 0), (99, .iload 5, 2, 0, 0, 0), (101, .invokevirtual 34, 3, 279, 2, 19), (104, .invokevirtual 38, 3, 280, 3, 19), (107, .iinc 5 1, 3, 0, 0, 0), (110, .goto (-28), 3, 0, 0, 0), (113, .iinc 4 (-1), 3, 0, 0, 0), (116, .goto (-42), 3, 0, 0, 0), (119, .aload_n 0, 1, 0, 0, 0), (120, .invokevirtual 42, 3, 281, 0, 19), (123, .return_, 1, 0, 0, 0)]
noncomputable def ij_t283 : List (Nat × ij_E) := [(0, .aload_n 0, 1, 0, 0, 0), (1, .getfield 25, 3, 9, 3, 0), (4, .iconst 2, 1, 0, 0, 0), (5, .if_icmp .ge 7, 3, 0, 0, 0), (8, .iconst 0, 1, 0, 0, 0), (9, .goto 9, 3, 0, 0, 0), (12, .aload_n 0, 1, 0, 0, 0), (13, .iconst 1, 1, 0, 0, 0), (14, .iconst 0, 1, 0, 0, 0), (15, .invokevirtual 45, 3, 277, 2, 19), (18, .ireturn, 1, 0, 0, 0)]
noncomputable def ij_t284 : List (Nat × ij_E) := [(0, .aload_n 0, 1, 0, 0, 0), (1, .getfield 53, 3, 10, 7, 0), (4, .getfield 226, 3, 4, 3, 0), (7, .invokestatic 220, 3, 88, 1, 1), (10, .bipush 7, 2, 0, 0, 0), (12, .if_icmp .le 10, 3, 0, 0, 0), (15, .aload_n 0, 1, 0, 0, 0), (16, .bipush 7, 2, 0, 0, 0), (18, .invokevirtual 139, 3, 44, 1, 20), (21, .ireturn, 1, 0, 0, 0), (22, .aload_n 0, 1, 0, 0, 0), (23, .getfield 81, 3, 10, 11, 0), (26, .aload_n 0, 1, 0, 0, 0), (27, .getfield 53, 3, 10, 7, 0), (30, .getfield 226, 3, 4, 3, 0), (33, .aload_n 0, 1, 0, 0, 0), (34, .getfield 53, 3, 10, 7, 0), (37, .invokevirtual 266, 3, 80, 0, 14), (40, .invokevirtual 345, 3, 282, 2, 19), (43, .aload_n 0, 1, 0, 0, 0), (44, .aload_n 0, 1, 0, 0, 0), (45, .getfield 81, 3, 10, 11, 0), (48, .invokevirtual 349, 3, 283, 0, 19), (51, .invokevirtual 191, 3, 90, 1, 20), (54, .ireturn, 1, 0, 0, 0)]
noncomputable def ij_t285 : List (Nat × ij_E) := [(0, .aload_n 0, 1, 0, 0, 0), (1, .getfield 377, 3, 11, 36, 0), (4, .iconst (-1), 1, 0, 0, 0), (5, .if_icmp .eq 20, 3, 0, 0, 0), (8, .aload_n 0, 1, 0, 0, 0), (9, .getfield 66, 3, 11, 33, 0), (12, .aload_n 0, 1, 0, 0, 0), (13, .getfield 380, 3, 11, 35, 0), (16, .iaload, 1, 0, 0, 0), (17, .aload_n 0, 1, 0, 0, 0), (18, .getfield 377, 3, 11, 36, 0), (21, .if_icmp .lt 4, 3, 0, 0, 0), (24, .return_, 1, 0, 0, 0), (25, .aload_n 0, 1, 0, 0, 0), (26, .aload_n 0, 1, 0, 0, 0), (27, .getfield 66, 3, 11, 33, 0), (30, .aload_n 0, 1, 0, 0, 0), (31, .getfield 380, 3, 11, 35, 0), (34, .iaload, 1, 0, 0, 0), (35, .putfield 377, 3, 11, 36, 0), (38, .iconst 0, 1, 0, 0, 0), (39, .istore_n 1, 1, 0, 0, 0), (40, .iload_n 1, 1, 0, 0, 0), (41, .aload_n 0, 1, 0, 0, 0), (42, .getfield 380, 3, 11, 35, 0), (45, .if_icmp .ge 26, 3, 0, 0, 0), (48, .aload_n 0, 1, 0, 0, 0), (49, .getfield 69, 3, 11, 34, 0), (52, .iload_n 1, 1, 0, 0, 0), (53, .aload_n 0, 1, 0, 0, 0), (54, .getfield 60, 3, 11, 31, 0), (57, .aload_n 0, 1, 0, 0, 0), (58, .getfield 63, 3, 11, 32, 0), (61, .iload_n 1, 1, 0, 0, 0), (62, .iaload, 1, 0, 0, 0), (63, .iaload, 1, 0, 0, 0), (64, .iastore, 1, 0, 0, 0), (65, .iinc 1 1, 3, 0, 0, 0), (68, .goto (-28), 3, 0, 0, 0), (71, .return_, 1, 0, 0, 0)]
noncomputable def ij_t286 : List (Nat × ij_E) := [(0, .iload_n 1, 1, 0, 0, 0), (1, .iload_n 2, 1, 0, 0, 0), (2, .isub, 1, 0, 0, 0), (3, .aload_n 0, 1, 0, 0, 0), (4, .getfield 7, 3, 11, 0, 0), (7, .iconst 1, 1, 0, 0, 0), (8, .iaload, 1, 0, 0, 0), (9, .invokestatic 266, 3, 111, 2, 1), (12, .iload_n 2, 1, 0, 0, 0), (13, .iload_n 1, 1, 0, 0, 0), (14, .isub, 1, 0, 0, 0), (15, .aload_n 0, 1, 0, 0, 0), (16, .getfield 7, 3, 11, 0, 0), (19, .iconst 1, 1, 0, 0, 0), (20, .iaload, 1, 0, 0, 0), (21, .invokestatic 266, 3, 111, 2, 1), (24, .invokestatic 173, 3, 95, 2, 1), (27, .ireturn, 1, 0, 0, 0)]
noncomputable def ij_t287 : List (Nat × ij_E) := [(0, .aload_n 0, 1, 0, 0, 0), (1, .iconst 0, 1, 0, 0, 0), (2, .putfield 380, 3, 11, 35, 0), (5, .aload_n 0, 1, 0, 0, 0), (6, .iconst (-1), 1, 0, 0, 0), (7, .putfield 377, 3, 11, 36, 0), (10, .aload_n 0, 1, 0, 0, 0), (11, .invokevirtual 282, 3, 144, 0, 21), (14, .bipush 7, 2, 0, 0, 0), (16, .if_icmp .le 5, 3, 0, 0, 0), (19, .iconst 0, 1, 0, 0, 0), (20, .ireturn, 1, 0, 0, 0), (21, .iconst 0, 1, 0, 0, 0), (22, .istore_n 1, 1, 0, 0, 0), (23, .iload_n 1, 1, 0, 0, 0), (24, .bipush 60, 2, 0, 0, 0), (26, .if_icmp .ge 40, 3, 0, 0, 0), (29, .aload_n 0, 1, 0, 0, 0), (30, .iload_n 1, 1, 0, 0, 0), (31, .invokevirtual 279, 3, 143, 1, 21), (34, .ifCond .ne 6, 3, 0, 0, 0), (37, .goto 23, 3, 0, 0, 0), (40, .aload_n 0, 1, 0, 0, 0), (41, .getfield 60, 3, 11, 31, 0), (44, .aload_n 0, 1, 0, 0, 0), (45, .getfield 380, 3, 11, 35, 0), (48, .iload_n 1, 1, 0, 0, 0), (49, .iastore, 1, 0, 0, 0), (50, .aload_n 0, 1, 0, 0, 0), (51, .dup, 1, 0, 0, 0), (52, .getfield 380, 3, 11, 35, 0), (55, .iconst 1, 1, 0, 0, 0), (56, .iadd, 1, 0, 0, 0), (57, .putfield 380, 3, 11, 35, 0), (60, .iinc 1 1, 3, 0, 0, 0), (63, .goto (-40), 3, 0, 0, 0), (66, .iconst 1, 1, 0, 0, 0), (67, .istore_n 1, 1, 0, 0, 0), (68, .iconst 1, 1, 0, 0, 0), (69, .istore_n 2, 1, 0, 0, 0), (70, .aload_n 0, 1, 0, 0, 0), (71, .getfield 63, 3, 11, 32, 0), (74, .iconst 0, 1, 0, 0, 0), (75, .iconst 0, 1, 0, 0, 0), (76, .iastore, 1, 0, 0, 0), (77, .aload_n 0, 1, 0, 0, 0), (78, .getfield 63, 3, 11, 32, 0), (81, .iconst 1, 1, 0, 0, 0), (82, .iconst 0, 1, 0, 0, 0), (83, .iastore, 1, 0, 0, 0), (84, .aload_n 0, 1, 0, 0, 0), (85, .getfield 66, 3, 11, 33, 0), (88, .iconst 1, 1, 0, 0, 0), (89, .iconst 0, 1, 0, 0, 0), (90, .iastore, 1, 0, 0, 0), (91, .aload_n 0, 1, 0, 0, 0), (92, .getfield 380, 3, 11, 35, 0), (95, .iconst 2, 1, 0, 0, 0), (96, .if_icmp .ge 17, 3, 0, 0, 0), (99, .aload_n 0, 1, 0, 0, 0), (100, .getfield 66, 3, 11, 33, 0), (103, .aload_n 0, 1, 0, 0, 0), (104, .getfield 380, 3, 11, 35, 0), (107, .iconst 0, 1, 0, 0, 0), (108, .iastore, 1, 0, 0, 0), (109, .aload_n 0, 1, 0, 0, 0), (110, .invokevirtual 383, 3, 285, 0, 21), (113, .iload_n 1, 1, 0, 0, 0), (114, .ifCond .le 165, 3, 0, 0, 0), (117, .aload_n 0, 1, 0, 0, 0), (118, .getfield 380, 3, 11, 35, 0), (121, .iconst 1, 1, 0, 0, 0), (122, .if_icmp .le 157, 3, 0, 0, 0), (125, .iload_n 1, 1, 0, 0, 0), (126, .aload_n 0, 1, 0, 0, 0), (127, .getfield 380, 3, 11, 35, 0), (130, .if_icmp .ne 13, 3, 0, 0, 0), (133, .aload_n 0, 1, 0, 0, 0), (134, .invokevirtual 383, 3, 285, 0, 21), (137, .iinc 1 (-1), 3, 0, 0, 0), (140, .goto (-27), 3, 0, 0, 0), (143, .iload_n 2, 1, 0, 0, 0), (144, .aload_n 0, 1, 0, 0, 0), (145, .getfield 63, 3, 11, 32, 0), (148, .iload_n 1, 1, 0, 0, 0), (149, .iaload, 1, 0, 0, 0), (150, .ifCond .ne 7, 3, 0, 0, 0), (153, .iconst 0, 1, 0, 0, 0), (154, .goto 11, 3, 0, 0, 0), (157, .iconst 1, 1, 0, 0, 0), (158, .aload_n 0, 1, 0, 0, 0), (159, .getfield 63, 3, 11, 32, 0), (162, .iload_n 1, 1, 0, 0, 0), (163, .iaload, 1, 0, 0, 0), (164, .ishl, 1, 0, 0, 0), (165, .iconst (-1), 1, 0, 0, 0), (166, .ixor, 1, 0, 0, 0), (167, .iand, 1, 0, 0, 0), (168, .istore_n 2, 1, 0, 0, 0), (169, .aload_n 0, 1, 0, 0, 0), (170, .getfield 63, 3, 11, 32, 0), (173, .iload_n 1, 1, 0, 0, 0), (174, .iaload, 1, 0, 0, 0), (175, .iconst 1, 1, 0, 0, 0), (176, .iadd, 1, 0, 0, 0), (177, .istore_n 3, 1, 0, 0, 0), (178, .iload_n 3, 1, 0, 0, 0), (179, .aload_n 0, 1, 0, 0, 0), (180, .getfield 380, 3, 11, 35, 0), (183, .if_icmp .ge 18, 3, 0, 0, 0), (186, .aload_n 0, 1, 0, 0, 0), (187, .iload_n 2, 1, 0, 0, 0), (188, .iload_n 3, 1, 0, 0, 0), (189, .invokevirtual 213, 3, 101, 2, 21), (192, .ifCond .eq 9, 3, 0, 0, 0), (195, .iinc 3 1, 3, 0, 0, 0), (198, .goto (-20), 3, 0, 0, 0), (201, .iload_n 3, 1, 0, 0, 0), (202, .aload_n 0, 1, 0, 0, 0), (203, .getfield 380, 3, 11, 35, 0), (206, .if_icmp .ne 9, 3, 0, 0, 0), (209, .iinc 1 (-1), 3, 0, 0, 0), (212, .goto (-99), 3, 0, 0, 0), (215, .aload_n 0, 1, 0, 0, 0), (216, .getfield 63, 3, 11, 32, 0), (219, .iload_n 1, 1, 0, 0, 0), (220, .iload_n 3, 1, 0, 0, 0), (221, .iastore, 1, 0, 0, 0), (222, .iload_n 2, 1, 0, 0, 0), (223, .iconst 1, 1, 0, 0, 0), (224, .iload_n 3, 1, 0, 0, 0), (225, .ishl, 1, 0, 0, 0), (226, .ior, 1, 0, 0, 0), (227, .istore_n 2, 1, 0, 0, 0), (228, .aload_n 0, 1, 0, 0, 0), (229, .getfield 66, 3, 11, 33, 0), (232, .iload_n 1, 1, 0, 0, 0), (233, .iconst 1, 1, 0, 0, 0), (234, .iadd, 1, 0, 0, 0), (235, .aload_n 0, 1, 0, 0, 0), (236, .getfield 66, 3, 11, 33, 0), (239, .iload_n 1, 1, 0, 0, 0), (240, .iaload, 1, 0, 0, 0), (241, .aload_n 0, 1, 0, 0, 0), (242, .aload_n 0, 1, 0, 0, 0), (243, .getfield 60, 3, 11, 31, 0), (246, .aload_n 0, 1, 0, 0, 0), (247, .getfield 63, 3, 11, 32, 0), (250, .iload_n 1, 1, 0, 0, 0), (251, .iconst 1, 1, 0, 0, 0), (252, .isub, 1, 0, 0, 0), (253, .iaload, 1, 0, 0, 0), (254, .iaload, 1, 0, 0, 0), (255, .aload_n 0, 1, 0, 0, 0), (256, .getfield 60, 3, 11, 31, 0), (259, .iload_n 3, 1, 0, 0, 0), (260, .iaload, 1, 0, 0, 0), (261, .invokevirtual 386, 3, 286, 2, 21), (264, .iadd, 1, 0, 0, 0), (265, .iastore, 1, 0, 0, 0), (266, .iinc 1 1, 3, 0, 0, 0), (269, .aload_n 0, 1, 0, 0, 0), (270, .getfield 63, 3, 11, 32, 0), (273, .iload_n 1, 1, 0, 0, 0), (274, .iconst 0, 1, 0, 0, 0), (275, .iastore, 1, 0, 0, 0), (276, .goto (-163), 3, 0, 0, 0), (279, .iconst 1, 1, 0, 0, 0), (280, .ireturn, 1, 0, 0, 0)]
noncomputable def ij_t288 : List (Nat × ij_E) := [(0, .aload_n 0, 1, 0, 0, 0), (1, .invokevirtual 389, 3, 287, 0, 21), (4, .ifCond .eq 14, 3, 0, 0, 0), (7, .aload_n 0, 1, 0, 0, 0), (8, .aload_n 0, 1, 0, 0, 0), (9, .getfield 377, 3, 11, 36, 0), (12, .invokevirtual 122, 3, 115, 1, 21), (15, .goto 9, 3, 0, 0, 0), (18, .aload_n 0, 1, 0, 0, 0), (19, .bipush 7, 2, 0, 0, 0), (21, .invokevirtual 118, 3, 98, 1, 21), (24, .ireturn, 1, 0, 0, 0)]
noncomputable def ij_t289 : List (Nat × ij_E) := [(0, .iload_n 1, 1, 0, 0, 0), (1, .ifCond .lt 29, 3, 0, 0, 0), (4, .iload_n 1, 1, 0, 0, 0), (5, .aload_n 0, 1, 0, 0, 0), (6, .getfield 25, 3, 9, 3, 0), (9, .if_icmp .ge 21, 3, 0, 0, 0), (12, .iload_n 1, 1, 0, 0, 0), (13, .aload_n 0, 1, 0, 0, 0), (14, .getfield 15, 3, 9, 1, 0), (17, .arraylength, 1, 0, 0, 0), (18, .if_icmp .ge 12, 3, 0, 0, 0), (21, .aload_n 0, 1, 0, 0, 0), (22, .getfield 15, 3, 9, 1, 0), (25, .iload_n 1, 1, 0, 0, 0), (26, .iaload, 1, 0, 0, 0), (27, .goto 4, 3, 0, 0, 0), (30, .iconst (-1), 1, 0, 0, 0), (31, .ireturn, 1, 0, 0, 0)]
noncomputable def ij_t290 : List (Nat × ij_E) := [(0, .aload_n 0, 1, 0, 0, 0), (1, .getfield 53, 3, 10, 7, 0), (4, .getfield 226, 3, 4, 3, 0), (7, .invokestatic 220, 3, 88, 1, 1), (10, .bipush 7, 2, 0, 0, 0), (12, .if_icmp .le 10, 3, 0, 0, 0), (15, .aload_n 0, 1, 0, 0, 0), (16, .bipush 7, 2, 0, 0, 0), (18, .invokevirtual 139, 3, 44, 1, 20), (21, .ireturn, 1, 0, 0, 0), (22, .aload_n 0, 1, 0, 0, 0), (23, .getfield 81, 3, 10, 11, 0), (26, .aload_n 0, 1, 0, 0, 0), (27, .getfield 53, 3, 10, 7, 0), (30, .getfield 226, 3, 4, 3, 0), (33, .aload_n 0, 1, 0, 0, 0), (34, .getfield 53, 3, 10, 7, 0), (37, .invokevirtual 266, 3, 80, 0, 14), (40, .invokevirtual 345, 3, 282, 2, 19), (43, .aload_n 0, 1, 0, 0, 0), (44, .aload_n 0, 1, 0, 0, 0), (45, .getfield 81, 3, 10, 11, 0), (48, .iload_n 1, 1, 0, 0, 0), (49, .invokevirtual 352, 3, 289, 1, 19), (52, .invokevirtual 260, 3, 167, 1, 20), (55, .ireturn, 1, 0, 0, 0)]
noncomputable def ij_t291 : List (Nat × ij_E) := [(0, .aload_n 0, 1, 0, 0, 0), (1, .invokevirtual 389, 3, 287, 0, 21), (4, .ifCond .ne 10, 3, 0, 0, 0), (7, .aload_n 0, 1, 0, 0, 0), (8, .bipush 7, 2, 0, 0, 0), (10, .invokevirtual 118, 3, 98, 1, 21), (13, .ireturn, 1, 0, 0, 0), (14, .iload_n 1, 1, 0, 0, 0), (15, .ifCond .lt 11, 3, 0, 0, 0), (18, .iload_n 1, 1, 0, 0, 0), (19, .aload_n 0, 1, 0, 0, 0), (20, .getfield 380, 3, 11, 35, 0), (23, .if_icmp .lt 12, 3, 0, 0, 0), (26, .aload_n 0, 1, 0, 0, 0), (27, .bipush 6, 2, 0, 0, 0), (29, .invokevirtual 118, 3, 98, 1, 21), (32, .goto 13, 3, 0, 0, 0), (35, .aload_n 0, 1, 0, 0, 0), (36, .aload_n 0, 1, 0, 0, 0), (37, .getfield 69, 3, 11, 34, 0), (40, .iload_n 1, 1, 0, 0, 0), (41, .iaload, 1, 0, 0, 0), (42, .invokevirtual 122, 3, 115, 1, 21), (45, .ireturn, 1, 0, 0, 0)]
noncomputable def ij_t292 : List (Nat × ij_E) := [(0, .lconst 0, 1, 0, 0, 0), (1, .lstore_n 1, 1, 0, 0, 0), (2, .iconst 0, 1, 0, 0, 0), (3, .istore_n 3, 1, 0, 0, 0), (4, .iload_n 3, 1, 0, 0, 0), (5, .aload_n 0, 1, 0, 0, 0), (6, .getfield 304, 3, 3, 3, 0), (9, .if_icmp .ge 47, 3, 0, 0, 0), (12, .iload_n 3, 1, 0, 0, 0), (13, .iconst 1, 1, 0, 0, 0), (14, .iadd, 1, 0, 0, 0), (15, .istore 4, 2, 0, 0, 0), (17, .iload 4, 2, 0, 0, 0), (19, .aload_n 0, 1, 0, 0, 0), (20, .getfield 304, 3, 3, 3, 0), (23, .if_icmp .ge 27, 3, 0, 0, 0), (26, .lload_n 1, 1, 0, 0, 0), (27, .aload_n 0, 1, 0, 0, 0), (28, .iload 4, 2, 0, 0, 0), (30, .invokevirtual 238, 3, 138, 1, 13), (33, .aload_n 0, 1, 0, 0, 0), (34, .iload_n 3, 1, 0, 0, 0), (35, .invokevirtual 238, 3, 138, 1, 13), (38, .isub, 1, 0, 0, 0), (39, .invokestatic 415, 3, 6, 1, 1), (42, .lor, 1, 0, 0, 0), (43, .lstore_n 1, 1, 0, 0, 0), (44, .iinc 4 1, 3, 0, 0, 0), (47, .goto (-30), 3, 0, 0, 0), (50, .iinc 3 1, 3, 0, 0, 0), (53, .goto (-49), 3, 0, 0, 0), (56, .lload_n 1, 1, 0, 0, 0), (57, .invokestatic 220, 3, 88, 1, 1), (60, .ireturn, 1, 0, 0, 0)]
noncomputable def ij_t293 : List (Nat × ij_E) := [(0, .lconst 0, 1, 0, 0, 0), (1, .lstore_n 3, 1, 0, 0, 0), (2, .iload_n 2, 1, 0, 0, 0), (3, .iconst 1, 1, 0, 0, 0), (4, .iadd, 1, 0, 0, 0), (5, .istore 5, 2, 0, 0, 0), (7, .iload 5, 2, 0, 0, 0), (9, .aload_n 0, 1, 0, 0, 0), (10, .getfield 23, 3, 3, 3, 0), (13, .if_icmp .ge 27, 3, 0, 0, 0), (16, .lload_n 3, 1, 0, 0, 0), (17, .aload_n 0, 1, 0, 0, 0), (18, .iload 5, 2, 0, 0, 0), (20, .invokevirtual 36, 3, 138, 1, 13), (23, .aload_n 0, 1, 0, 0, 0), (24, .iload_n 1, 1, 0, 0, 0), (25, .invokevirtual 36, 3, 138, 1, 13), (28, .isub, 1, 0, 0, 0), (29, .invokestatic 40, 3, 6, 1, 1), (32, .lor, 1, 0, 0, 0), (33, .lstore_n 3, 1, 0, 0, 0), (34, .iinc 5 1, 3, 0, 0, 0), (37, .goto (-30), 3, 0, 0, 0), (40, .lload_n 3, 1, 0, 0, 0), (41, .lreturn, 1, 0, 0, 0)]
noncomputable def ij_t294 : List (Nat × ij_E) := [(0, .iconst 0, 1, 0, 0, 0), (1, .istore_n 2, 1, 0, 0, 0), (2, .iload_n 2, 1, 0, 0, 0), (3, .aload_n 0, 1, 0, 0, 0), (4, .getfield 85, 3, 10, 12, 0), (7, .arraylength, 1, 0, 0, 0), (8, .if_icmp .ge 16, 3, 0, 0, 0), (11, .aload_n 0, 1, 0, 0, 0), (12, .getfield 85, 3, 10, 12, 0), (15, .iload_n 2, 1, 0, 0, 0), (16, .lconst 0, 1, 0, 0, 0), (17, .lastore, 1, 0, 0, 0), (18, .iinc 2 1, 3, 0, 0, 0), (21, .goto (-19), 3, 0, 0, 0), (24, .iconst 0, 1, 0, 0, 0), (25, .istore_n 2, 1, 0, 0, 0), (26, .iload_n 2, 1, 0, 0, 0), (27, .aload_n 1, 1, 0, 0, 0), (28, .getfield 304, 3, 3, 3, 0), (31, .if_icmp .ge 71, 3, 0, 0, 0), (34, .iload_n 2, 1, 0, 0, 0), (35, .iconst 1, 1, 0, 0, 0), (36, .iadd, 1, 0, 0, 0), (37, .istore_n 3, 1, 0, 0, 0), (38, .iload_n 3, 1, 0, 0, 0), (39, .aload_n 1, 1, 0, 0, 0), (40, .getfield 304, 3, 3, 3, 0), (43, .if_icmp .ge 53, 3, 0, 0, 0), (46, .aload_n 1, 1, 0, 0, 0), (47, .iload_n 3, 1, 0, 0, 0), (48, .invokevirtual 238, 3, 138, 1, 13), (51, .aload_n 1, 1, 0, 0, 0), (52, .iload_n 2, 1, 0, 0, 0), (53, .invokevirtual 238, 3, 138, 1, 13), (56, .isub, 1, 0, 0, 0), (57, .istore 4, 2, 0, 0, 0), (59, .iload 4, 2, 0, 0, 0), (61, .ifCond .le 29, 3, 0, 0, 0), (64, .iload 4, 2, 0, 0, 0), (66, .aload_n 0, 1, 0, 0, 0), (67, .getfield 85, 3, 10, 12, 0), (70, .arraylength, 1, 0, 0, 0), (71, .if_icmp .ge 19, 3, 0, 0, 0), (74, .aload_n 0, 1, 0, 0, 0), (75, .getfield 85, 3, 10, 12, 0), (78, .iload 4, 2, 0, 0, 0), (80, .dup2, 1, 0, 0, 0), (81, .laload, 1, 0, 0, 0), (82, .aload_n 1, 1, 0, 0, 0), (83, .iload_n 2, 1, 0, 0, 0), (84, .iload_n 3, 1, 0, 0, 0), (85, .invokevirtual 418, 3, 293, 2, 13), (88, .lor, 1, 0, 0, 0), (89, .lastore, 1, 0, 0, 0), (90, .iinc 3 1, 3, 0, 0, 0), (93, .goto (-55), 3, 0, 0, 0), (96, .iinc 2 1, 3, 0, 0, 0), (99, .goto (-73), 3, 0, 0, 0), (102, .iconst 0, 1, 0, 0, 0), (103, .istore_n 2, 1, 0, 0, 0), (104, .iconst 0, 1, 0, 0, 0), (105, .istore_n 3, 1, 0, 0, 0), (106, .iload_n 3, 1, 0, 0, 0), (107, .aload_n 0, 1, 0, 0, 0), (108, .getfield 85, 3, 10, 12, 0), (111, .arraylength, 1, 0, 0, 0), (112, .if_icmp .ge 21, 3, 0, 0, 0), (115, .iload_n 2, 1, 0, 0, 0), (116, .aload_n 0, 1, 0, 0, 0), (117, .getfield 85, 3, 10, 12, 0), (120, .iload_n 3, 1, 0, 0, 0), (121, .laload, 1, 0, 0, 0), (122, .invokestatic 220, 3, 88, 1, 1), (125, .iadd, 1, 0, 0, 0), (126, .istore_n 2, 1, 0, 0, 0), (127, .iinc 3 1, 3, 0, 0, 0), (130, .goto (-24), 3, 0, 0, 0), (133, .iload_n 2, 1, 0, 0, 0), (134, .ireturn, 1, 0, 0, 0)]
noncomputable def ij_t295 : List (Nat × ij_E) := [(0, .iload_n 1, 1, 0, 0, 0), (1, .iconst 1, 1, 0, 0, 0), (2, .if_icmp .lt 8, 3, 0, 0, 0), (5, .iload_n 1, 1, 0, 0, 0), (6, .iconst 3, 1, 0, 0, 0), (7, .if_icmp .le 9, 3, 0, 0, 0), (10, .aload_n 0, 1, 0, 0, 0), (11, .iconst 1, 1, 0, 0, 0), (12, .invokevirtual 139, 3, 44, 1, 20), (15, .ireturn, 1, 0, 0, 0), (16, .iload_n 1, 1, 0, 0, 0), (17, .iconst 1, 1, 0, 0, 0), (18, .if_icmp .ne 9, 3, 0, 0, 0), (21, .aload_n 0, 1, 0, 0, 0), (22, .iconst 1, 1, 0, 0, 0), (23, .invokevirtual 191, 3, 90, 1, 20), (26, .ireturn, 1, 0, 0, 0), (27, .aload_n 0, 1, 0, 0, 0), (28, .invokevirtual 212, 3, 137, 0, 20), (31, .astore_n 2, 1, 0, 0, 0), (32, .aload_n 0, 1, 0, 0, 0), (33, .iload_n 1, 1, 0, 0, 0), (34, .iconst 2, 1, 0, 0, 0), (35, .if_icmp .ne 10, 3, 0, 0, 0), (38, .aload_n 2, 1, 0, 0, 0), (39, .invokestatic 355, 3, 292, 1, 1), (42, .goto 8, 3, 0, 0, 0), (45, .aload_n 0, 1, 0, 0, 0), (46, .aload_n 2, 1, 0, 0, 0), (47, .invokevirtual 359, 3, 294, 1, 20), (50, .invokevirtual 191, 3, 90, 1, 20), (53, .ireturn, 1, 0, 0, 0)]
noncomputable def ij_t296 : List (Nat × ij_E) := [(0, .iload_n 1, 1, 0, 0, 0), (1, .i2l, 1, 0, 0, 0), (2, .lconst 1, 1, 0, 0, 0), (3, .ldc2_w 392, 3, 0, 3, 0), (6, .invokestatic 289, 3, 149, 3, 1), (9, .ifCond .ne 9, 3, 0, 0, 0), (12, .aload_n 0, 1, 0, 0, 0), (13, .iconst 1, 1, 0, 0, 0), (14, .invokevirtual 118, 3, 98, 1, 21), (17, .ireturn, 1, 0, 0, 0), (18, .aload_n 0, 1, 0, 0, 0), (19, .invokevirtual 242, 3, 114, 0, 21), (22, .iconst 0, 1, 0, 0, 0), (23, .istore_n 2, 1, 0, 0, 0), (24, .iconst 0, 1, 0, 0, 0), (25, .istore_n 3, 1, 0, 0, 0), (26, .iload_n 3, 1, 0, 0, 0), (27, .sipush 3600, 3, 0, 0, 0), (30, .if_icmp .ge 16, 3, 0, 0, 0), (33, .aload_n 0, 1, 0, 0, 0), (34, .getfield 72, 3, 11, 37, 0), (37, .iload_n 3, 1, 0, 0, 0), (38, .iconst 0, 1, 0, 0, 0), (39, .bastore, 1, 0, 0, 0), (40, .iinc 3 1, 3, 0, 0, 0), (43, .goto (-17), 3, 0, 0, 0), (46, .iconst 0, 1, 0, 0, 0), (47, .istore_n 3, 1, 0, 0, 0), (48, .iload_n 3, 1, 0, 0, 0), (49, .aload_n 0, 1, 0, 0, 0), (50, .getfield 245, 3, 11, 26, 0), (53, .if_icmp .ge 135, 3, 0, 0, 0), (56, .iload_n 1, 1, 0, 0, 0), (57, .iconst 1, 1, 0, 0, 0), (58, .if_icmp .ne 10, 3, 0, 0, 0), (61, .aload_n 0, 1, 0, 0, 0), (62, .getfield 72, 3, 11, 37, 0), (65, .iconst 0, 1, 0, 0, 0), (66, .iconst 1, 1, 0, 0, 0), (67, .bastore, 1, 0, 0, 0), (68, .iload_n 3, 1, 0, 0, 0), (69, .iconst 1, 1, 0, 0, 0), (70, .iadd, 1, 0, 0, 0), (71, .istore 4, 2, 0, 0, 0), (73, .iload 4, 2, 0, 0, 0), (75, .aload_n 0, 1, 0, 0, 0), (76, .getfield 245, 3, 11, 26, 0), (79, .if_icmp .ge 103, 3, 0, 0, 0), (82, .iload_n 1, 1, 0, 0, 0), (83, .iconst 1, 1, 0, 0, 0), (84, .if_icmp .le 98, 3, 0, 0, 0), (87, .iload_n 1, 1, 0, 0, 0), (88, .iconst 2, 1, 0, 0, 0), (89, .if_icmp .ne 23, 3, 0, 0, 0), (92, .aload_n 0, 1, 0, 0, 0), (93, .getfield 72, 3, 11, 37, 0), (96, .aload_n 0, 1, 0, 0, 0), (97, .getfield 44, 3, 11, 22, 0), (100, .iload 4, 2, 0, 0, 0), (102, .iaload, 1, 0, 0, 0), (103, .aload_n 0, 1, 0, 0, 0), (104, .getfield 44, 3, 11, 22, 0), (107, .iload_n 3, 1, 0, 0, 0), (108, .iaload, 1, 0, 0, 0), (109, .isub, 1, 0, 0, 0), (110, .iconst 1, 1, 0, 0, 0), (111, .bastore, 1, 0, 0, 0), (112, .iload 4, 2, 0, 0, 0), (114, .iconst 1, 1, 0, 0, 0), (115, .iadd, 1, 0, 0, 0), (116, .istore 5, 2, 0, 0, 0), (118, .iload 5, 2, 0, 0, 0), (120, .aload_n 0, 1, 0, 0, 0), (121, .getfield 245, 3, 11, 26, 0), (124, .if_icmp .ge 52, 3, 0, 0, 0), (127, .iload_n 1, 1, 0, 0, 0), (128, .iconst 3, 1, 0, 0, 0), (129, .if_icmp .ne 47, 3, 0, 0, 0), (132, .aload_n 0, 1, 0, 0, 0), (133, .getfield 72, 3, 11, 37, 0), (136, .bipush 60, 2, 0, 0, 0), (138, .aload_n 0, 1, 0, 0, 0), (139, .getfield 44, 3, 11, 22, 0), (142, .iload 4, 2, 0, 0, 0), (144, .iaload, 1, 0, 0, 0), (145, .aload_n 0, 1, 0, 0, 0), (146, .getfield 44, 3, 11, 22, 0), (149, .iload_n 3, 1, 0, 0, 0), (150, .iaload, 1, 0, 0, 0), (151, .isub, 1, 0, 0, 0), (152, .imul, 1, 0, 0, 0), (153, .aload_n 0, 1, 0, 0, 0), (154, .getfield 44, 3, 11, 22, 0), (157, .iload 5, 2, 0, 0, 0), (159, .iaload, 1, 0, 0, 0), (160, .iadd, 1, 0, 0, 0), (161, .aload_n 0, 1, 0, 0, 0), (162, .getfield 44, 3, 11, 22, 0), (165, .iload_n 3, 1, 0, 0, 0), (166, .iaload, 1, 0, 0, 0), (167, .isub, 1, 0, 0, 0), (168, .iconst 1, 1, 0, 0, 0), (169, .bastore, 1, 0, 0, 0), (170, .iinc 5 1, 3, 0, 0, 0), (173, .goto (-55), 3, 0, 0, 0), (176, .iinc 4 1, 3, 0, 0, 0), (179, .goto (-106), 3, 0, 0, 0), (182, .iinc 3 1, 3, 0, 0, 0), (185, .goto (-137), 3, 0, 0, 0), (188, .iconst 0, 1, 0, 0, 0), (189, .istore_n 3, 1, 0, 0, 0), (190, .iload_n 3, 1, 0, 0, 0), (191, .sipush 3600, 3, 0, 0, 0), (194, .if_icmp .ge 26, 3, 0, 0, 0), (197, .iload_n 2, 1, 0, 0, 0), (198, .aload_n 0, 1, 0, 0, 0), (199, .getfield 72, 3, 11, 37, 0), (202, .iload_n 3, 1, 0, 0, 0), (203, .baload, 1, 0, 0, 0), (204, .ifCond .eq 7, 3, 0, 0, 0), (207, .iconst 1, 1, 0, 0, 0), (208, .goto 4, 3, 0, 0, 0), (211, .iconst 0, 1, 0, 0, 0), (212, .iadd, 1, 0, 0, 0), (213, .istore_n 2, 1, 0, 0, 0), (214, .iinc 3 1, 3, 0, 0, 0), (217, .goto (-27), 3, 0, 0, 0), (220, .aload_n 0, 1, 0, 0, 0), (221, .iload_n 2, 1, 0, 0, 0), (222, .invokevirtual 122, 3, 115, 1, 21), (225, .ireturn, 1, 0, 0, 0)]
noncomputable def ij_t297 : List (Nat × ij_E) := [(0, .aload_n 0, 1, 0, 0, 0), (1, .getfield 53, 3, 10, 7, 0), (4, .invokevirtual 266, 3, 80, 0, 14), (7, .istore_n 1, 1, 0, 0, 0), (8, .aload_n 0, 1, 0, 0, 0), (9, .getfield 53, 3, 10, 7, 0), (12, .iconst 2, 1, 0, 0, 0), (13, .invokevirtual 209, 3, 135, 1, 14), (16, .istore_n 2, 1, 0, 0, 0), (17, .iconst 1, 1, 0, 0, 0), (18, .istore_n 3, 1, 0, 0, 0), (19, .iconst 0, 1, 0, 0, 0), (20, .istore 4, 2, 0, 0, 0), (22, .iload 4, 2, 0, 0, 0), (24, .bipush 60, 2, 0, 0, 0), (26, .if_icmp .ge 26, 3, 0, 0, 0), (29, .iload_n 2, 1, 0, 0, 0), (30, .ifCond .le 22, 3, 0, 0, 0), (33, .iload_n 1, 1, 0, 0, 0), (34, .iload_n 2, 1, 0, 0, 0), (35, .irem, 1, 0, 0, 0), (36, .istore 5, 2, 0, 0, 0), (38, .iload_n 2, 1, 0, 0, 0), (39, .istore_n 1, 1, 0, 0, 0), (40, .iload 5, 2, 0, 0, 0), (42, .istore_n 2, 1, 0, 0, 0), (43, .iinc 3 1, 3, 0, 0, 0), (46, .iinc 4 1, 3, 0, 0, 0), (49, .goto (-27), 3, 0, 0, 0), (52, .aload_n 0, 1, 0, 0, 0), (53, .iload_n 3, 1, 0, 0, 0), (54, .invokevirtual 191, 3, 90, 1, 20), (57, .ireturn, 1, 0, 0, 0)]
noncomputable def ij_t298 : List (Nat × ij_E) := [(0, .iconst 1, 1, 0, 0, 0), (1, .istore_n 1, 1, 0, 0, 0), (2, .aload_n 0, 1, 0, 0, 0), (3, .getfield 7, 3, 11, 0, 0), (6, .iconst 1, 1, 0, 0, 0), (7, .iaload, 1, 0, 0, 0), (8, .istore_n 2, 1, 0, 0, 0), (9, .aload_n 0, 1, 0, 0, 0), (10, .getfield 7, 3, 11, 0, 0), (13, .iconst 2, 1, 0, 0, 0), (14, .iaload, 1, 0, 0, 0), (15, .istore_n 3, 1, 0, 0, 0), (16, .aload_n 0, 1, 0, 0, 0), (17, .getfield 81, 3, 11, 40, 0), (20, .iconst 0, 1, 0, 0, 0), (21, .lconst 0, 1, 0, 0, 0), (22, .lastore, 1, 0, 0, 0), (23, .aload_n 0, 1, 0, 0, 0), (24, .getfield 84, 3, 11, 41, 0), (27, .iconst 0, 1, 0, 0, 0), (28, .lconst 1, 1, 0, 0, 0), (29, .lastore, 1, 0, 0, 0), (30, .iload_n 3, 1, 0, 0, 0), (31, .ifCond .eq 104, 3, 0, 0, 0), (34, .iload_n 2, 1, 0, 0, 0), (35, .iload_n 3, 1, 0, 0, 0), (36, .idiv, 1, 0, 0, 0), (37, .istore 4, 2, 0, 0, 0), (39, .iload_n 1, 1, 0, 0, 0), (40, .iconst 1, 1, 0, 0, 0), (41, .if_icmp .ne 7, 3, 0, 0, 0), (44, .lconst 1, 1, 0, 0, 0), (45, .goto 11, 3, 0, 0, 0), (48, .aload_n 0, 1, 0, 0, 0), (49, .getfield 81, 3, 11, 40, 0), (52, .iload_n 1, 1, 0, 0, 0), (53, .iconst 2, 1, 0, 0, 0), (54, .isub, 1, 0, 0, 0), (55, .laload, 1, 0, 0, 0), (56, .lstore 5, 2, 0, 0, 0), (58, .iload_n 1, 1, 0, 0, 0), (59, .iconst 1, 1, 0, 0, 0), (60, .if_icmp .ne 7, 3, 0, 0, 0), (63, .lconst 0, 1, 0, 0, 0), (64, .goto 11, 3, 0, 0, 0), (67, .aload_n 0, 1, 0, 0, 0), (68, .getfield 84, 3, 11, 41, 0), (71, .iload_n 1, 1, 0, 0, 0), (72, .iconst 2, 1, 0, 0, 0), (73, .isub, 1, 0, 0, 0), (74, .laload, 1, 0, 0, 0), (75, .lstore 7, 2, 0, 0, 0), (77, .aload_n 0, 1, 0, 0, 0), (78, .getfield 81, 3, 11, 40, 0), (81, .iload_n 1, 1, 0, 0, 0), (82, .iload 4, 2, 0, 0, 0), (84, .i2l, 1, 0, 0, 0), (85, .aload_n 0, 1, 0, 0, 0), (86, .getfield 81, 3, 11, 40, 0), (89, .iload_n 1, 1, 0, 0, 0), (90, .iconst 1, 1, 0, 0, 0), (91, .isub, 1, 0, 0, 0), (92, .laload, 1, 0, 0, 0), (93, .lmul, 1, 0, 0, 0), (94, .lload 5, 2, 0, 0, 0), (96, .ladd, 1, 0, 0, 0), (97, .lastore, 1, 0, 0, 0), (98, .aload_n 0, 1, 0, 0, 0), (99, .getfield 84, 3, 11, 41, 0), (102, .iload_n 1, 1, 0, 0, 0), (103, .iload 4, 2, 0, 0, 0), (105, .i2l, 1, 0, 0, 0), (106, .aload_n 0, 1, 0, 0, 0), (107, .getfield 84, 3, 11, 41, 0), (110, .iload_n 1, 1, 0, 0, 0), (111, .iconst 1, 1, 0, 0, 0), (112, .isub, 1, 0, 0, 0), (113, .laload, 1, 0, 0, 0), (114, .lmul, 1, 0, 0, 0), (115, .lload 7, 2, 0, 0, 0), (117, .ladd, 1, 0, 0, 0), (118, .lastore, 1, 0, 0, 0), (119, .iload_n 2, 1, 0, 0, 0), (120, .iload_n 3, 1, 0, 0, 0), (121, .irem, 1, 0, 0, 0), (122, .istore 9, 2, 0, 0, 0), (124, .iload_n 3, 1, 0, 0, 0), (125, .istore_n 2, 1, 0, 0, 0), (126, .iload 9, 2, 0, 0, 0), (128, .istore_n 3, 1, 0, 0, 0), (129, .iinc 1 1, 3, 0, 0, 0), (132, .goto (-102), 3, 0, 0, 0), (135, .iload_n 1, 1, 0, 0, 0), (136, .ireturn, 1, 0, 0, 0)]
noncomputable def ij_t299 : List (Nat × ij_E) := [(0, .aload_n 0, 1, 0, 0, 0), (1, .aload_n 0, 1, 0, 0, 0), (2, .invokevirtual 400, 3, 298, 0, 21), (5, .invokevirtual 122, 3, 115, 1, 21), (8, .ireturn, 1, 0, 0, 0)]
noncomputable def ij_t300 : List (Nat × ij_E) := [(0, .lload_n 0, 1, 0, 0, 0), (1, .lstore 4, 2, 0, 0, 0), (3, .lload_n 2, 1, 0, 0, 0), (4, .lstore 6, 2, 0, 0, 0), (6, .iconst 0, 1, 0, 0, 0), (7, .istore 8, 2, 0, 0, 0), (9, .iload 8, 2, 0, 0, 0), (11, .sipush 128, 3, 0, 0, 0), (14, .if_icmp .ge 31, 3, 0, 0, 0), (17, .lload 6, 2, 0, 0, 0), (19, .lconst 0, 1, 0, 0, 0), (20, .lcmp, 1, 0, 0, 0), (21, .ifCond .eq 24, 3, 0, 0, 0), (24, .lload 4, 2, 0, 0, 0), (26, .lload 6, 2, 0, 0, 0), (28, .lrem, 1, 0, 0, 0), (29, .lstore 9, 2, 0, 0, 0), (31, .lload 6, 2, 0, 0, 0), (33, .lstore 4, 2, 0, 0, 0), (35, .lload 9, 2, 0, 0, 0), (37, .lstore 6, 2, 0, 0, 0), (39, .iinc 8 1, 3, 0, 0, 0), (42, .goto (-33), 3, 0, 0, 0), (45, .lload 4, 2, 0, 0, 0), (47, .lreturn, 1, 0, 0, 0)]
noncomputable def ij_t301 : List (Nat × ij_E) := [(0, .lload_n 1, 1, 0, 0, 0), (1, .lload_n 3, 1, 0, 0, 0), (2, .invokestatic 389, 3, 300, 2, 1), (5, .lstore 5, 2, 0, 0, 0), (7, .lload 5, 2, 0, 0, 0), (9, .lconst 1, 1, 0, 0, 0), (10, .lcmp, 1, 0, 0, 0), (11, .ifCond .ge 10, 3, 0, 0, 0), (14, .aload_n 0, 1, 0, 0, 0), (15, .bipush 7, 2, 0, 0, 0), (17, .invokevirtual 119, 3, 28, 1, 20), (20, .ireturn, 1, 0, 0, 0), (21, .aload_n 0, 1, 0, 0, 0), (22, .lload_n 1, 1, 0, 0, 0), (23, .lload 5, 2, 0, 0, 0), (25, .ldiv, 1, 0, 0, 0), (26, .putfield 13, 3, 10, 1, 0), (29, .aload_n 0, 1, 0, 0, 0), (30, .lload_n 3, 1, 0, 0, 0), (31, .lload 5, 2, 0, 0, 0), (33, .ldiv, 1, 0, 0, 0), (34, .putfield 17, 3, 10, 2, 0), (37, .aload_n 0, 1, 0, 0, 0), (38, .invokevirtual 127, 3, 30, 0, 20), (41, .ireturn, 1, 0, 0, 0)]
noncomputable def ij_t302 : List (Nat × ij_E) := [(0, .iload_n 1, 1, 0, 0, 0), (1, .ifCond .ge 10, 3, 0, 0, 0), (4, .aload_n 0, 1, 0, 0, 0), (5, .bipush 6, 2, 0, 0, 0), (7, .invokevirtual 119, 3, 28, 1, 20), (10, .ireturn, 1, 0, 0, 0), (11, .aload_n 0, 1, 0, 0, 0), (12, .getfield 53, 3, 10, 7, 0), (15, .invokevirtual 266, 3, 80, 0, 14), (18, .istore_n 2, 1, 0, 0, 0), (19, .aload_n 0, 1, 0, 0, 0), (20, .getfield 53, 3, 10, 7, 0), (23, .iconst 2, 1, 0, 0, 0), (24, .invokevirtual 209, 3, 135, 1, 14), (27, .istore_n 3, 1, 0, 0, 0), (28, .lconst 0, 1, 0, 0, 0), (29, .lstore 4, 2, 0, 0, 0), (31, .lconst 1, 1, 0, 0, 0), (32, .lstore 6, 2, 0, 0, 0), (34, .lconst 1, 1, 0, 0, 0), (35, .lstore 8, 2, 0, 0, 0), (37, .lconst 0, 1, 0, 0, 0), (38, .lstore 10, 2, 0, 0, 0), (40, .iconst 0, 1, 0, 0, 0), (41, .istore 12, 2, 0, 0, 0), (43, .iconst 0, 1, 0, 0, 0), (44, .istore 13, 2, 0, 0, 0), (46, .iload 13, 2, 0, 0, 0), (48, .bipush 60, 2, 0, 0, 0), (50, .if_icmp .ge 75, 3, 0, 0, 0), (53, .iload_n 3, 1, 0, 0, 0), (54, .ifCond .le 71, 3, 0, 0, 0), (57, .iload 12, 2, 0, 0, 0), (59, .iload_n 1, 1, 0, 0, 0), (60, .if_icmp .ge 65, 3, 0, 0, 0), (63, .iload_n 2, 1, 0, 0, 0), (64, .iload_n 3, 1, 0, 0, 0), (65, .idiv, 1, 0, 0, 0), (66, .istore 14, 2, 0, 0, 0), (68, .iload_n 2, 1, 0, 0, 0), (69, .iload_n 3, 1, 0, 0, 0), (70, .irem, 1, 0, 0, 0), (71, .istore 15, 2, 0, 0, 0), (73, .iload 14, 2, 0, 0, 0), (75, .i2l, 1, 0, 0, 0), (76, .lload 4, 2, 0, 0, 0), (78, .lmul, 1, 0, 0, 0), (79, .lload 8, 2, 0, 0, 0), (81, .ladd, 1, 0, 0, 0), (82, .lstore 16, 2, 0, 0, 0), (84, .iload 14, 2, 0, 0, 0), (86, .i2l, 1, 0, 0, 0), (87, .lload 6, 2, 0, 0, 0), (89, .lmul, 1, 0, 0, 0), (90, .lload 10, 2, 0, 0, 0), (92, .ladd, 1, 0, 0, 0), (93, .lstore 18, 2, 0, 0, 0), (95, .lload 4, 2, 0, 0, 0), (97, .lstore 8, 2, 0, 0, 0), (99, .lload 6, 2, 0, 0, 0), (101, .lstore 10, 2, 0, 0, 0), (103, .lload 16, 2, 0, 0, 0), (105, .lstore 4, 2, 0, 0, 0), (107, .lload 18, 2, 0, 0, 0), (109, .lstore 6, 2, 0, 0, 0), (111, .iload_n 3, 1, 0, 0, 0), (112, .istore_n 2, 1, 0, 0, 0), (113, .iload 15, 2, 0, 0, 0), (115, .istore_n 3, 1, 0, 0, 0), (116, .iinc 12 1, 3, 0, 0, 0), (119, .iinc 13 1, 3, 0, 0, 0), (122, .goto (-76), 3, 0, 0, 0), (125, .iload 12, 2, 0, 0, 0), (127, .iload_n 1, 1, 0, 0, 0), (128, .if_icmp .ne 14, 3, 0, 0, 0), (131, .aload_n 0, 1, 0, 0, 0), (132, .lload 4, 2, 0, 0, 0), (134, .lload 6, 2, 0, 0, 0), (136, .invokevirtual 362, 3, 301, 2, 20), (139, .goto 9, 3, 0, 0, 0), (142, .aload_n 0, 1, 0, 0, 0), (143, .bipush 6, 2, 0, 0, 0), (145, .invokevirtual 119, 3, 28, 1, 20), (148, .ireturn, 1, 0, 0, 0)]
noncomputable def ij_t303 : List (Nat × ij_E) := [(0, .lload_n 1, 1, 0, 0, 0), (1, .lstore 5, 2, 0, 0, 0), (3, .lload_n 3, 1, 0, 0, 0), (4, .lstore 7, 2, 0, 0, 0), (6, .lload 7, 2, 0, 0, 0), (8, .lconst 0, 1, 0, 0, 0), (9, .lcmp, 1, 0, 0, 0), (10, .ifCond .eq 21, 3, 0, 0, 0), (13, .lload 5, 2, 0, 0, 0), (15, .lload 7, 2, 0, 0, 0), (17, .lrem, 1, 0, 0, 0), (18, .lstore 9, 2, 0, 0, 0), (20, .lload 7, 2, 0, 0, 0), (22, .lstore 5, 2, 0, 0, 0), (24, .lload 9, 2, 0, 0, 0), (26, .lstore 7, 2, 0, 0, 0), (28, .goto (-22), 3, 0, 0, 0), (31, .aload_n 0, 1, 0, 0, 0), (32, .lload_n 1, 1, 0, 0, 0), (33, .lload 5, 2, 0, 0, 0), (35, .ldiv, 1, 0, 0, 0), (36, .putfield 115, 3, 11, 2, 0), (39, .aload_n 0, 1, 0, 0, 0), (40, .lload_n 3, 1, 0, 0, 0), (41, .lload 5, 2, 0, 0, 0), (43, .ldiv, 1, 0, 0, 0), (44, .putfield 13, 3, 11, 3, 0), (47, .aload_n 0, 1, 0, 0, 0), (48, .iconst 0, 1, 0, 0, 0), (49, .invokevirtual 125, 3, 33, 1, 21), (52, .ireturn, 1, 0, 0, 0)]
noncomputable def ij_t304 : List (Nat × ij_E) := [(0, .aload_n 0, 1, 0, 0, 0), (1, .invokevirtual 400, 3, 298, 0, 21), (4, .istore_n 2, 1, 0, 0, 0), (5, .iload_n 1, 1, 0, 0, 0), (6, .ifCond .lt 8, 3, 0, 0, 0), (9, .iload_n 1, 1, 0, 0, 0), (10, .iload_n 2, 1, 0, 0, 0), (11, .if_icmp .lt 12, 3, 0, 0, 0), (14, .aload_n 0, 1, 0, 0, 0), (15, .bipush 6, 2, 0, 0, 0), (17, .invokevirtual 125, 3, 33, 1, 21), (20, .goto 19, 3, 0, 0, 0), (23, .aload_n 0, 1, 0, 0, 0), (24, .aload_n 0, 1, 0, 0, 0), (25, .getfield 81, 3, 11, 40, 0), (28, .iload_n 1, 1, 0, 0, 0), (29, .laload, 1, 0, 0, 0), (30, .aload_n 0, 1, 0, 0, 0), (31, .getfield 84, 3, 11, 41, 0), (34, .iload_n 1, 1, 0, 0, 0), (35, .laload, 1, 0, 0, 0), (36, .invokevirtual 403, 3, 303, 2, 21), (39, .ireturn, 1, 0, 0, 0)]
noncomputable def ij_t305 : List (Nat × ij_E) := [(0, .aload_n 0, 1, 0, 0, 0), (1, .invokevirtual 212, 3, 137, 0, 20), (4, .invokevirtual 216, 3, 141, 0, 13), (7, .lstore_n 1, 1, 0, 0, 0), (8, .lload_n 1, 1, 0, 0, 0), (9, .lload_n 1, 1, 0, 0, 0), (10, .invokestatic 220, 3, 88, 1, 1), (13, .iconst 1, 1, 0, 0, 0), (14, .isub, 1, 0, 0, 0), (15, .invokestatic 254, 3, 166, 2, 1), (18, .istore_n 3, 1, 0, 0, 0), (19, .aload_n 0, 1, 0, 0, 0), (20, .iload_n 3, 1, 0, 0, 0), (21, .i2l, 1, 0, 0, 0), (22, .lload_n 1, 1, 0, 0, 0), (23, .iconst 0, 1, 0, 0, 0), (24, .invokestatic 254, 3, 166, 2, 1), (27, .i2l, 1, 0, 0, 0), (28, .invokevirtual 362, 3, 301, 2, 20), (31, .ireturn, 1, 0, 0, 0)]
noncomputable def ij_t306 : List (Nat × ij_E) := [(0, .aload_n 0, 1, 0, 0, 0), (1, .invokevirtual 242, 3, 114, 0, 21), (4, .aload_n 0, 1, 0, 0, 0), (5, .aload_n 0, 1, 0, 0, 0), (6, .getfield 53, 3, 11, 25, 0), (9, .aload_n 0, 1, 0, 0, 0), (10, .getfield 269, 3, 11, 27, 0), (13, .iconst 1, 1, 0, 0, 0), (14, .isub, 1, 0, 0, 0), (15, .iaload, 1, 0, 0, 0), (16, .i2l, 1, 0, 0, 0), (17, .aload_n 0, 1, 0, 0, 0), (18, .getfield 53, 3, 11, 25, 0), (21, .iconst 0, 1, 0, 0, 0), (22, .iaload, 1, 0, 0, 0), (23, .i2l, 1, 0, 0, 0), (24, .invokevirtual 403, 3, 303, 2, 21), (27, .ireturn, 1, 0, 0, 0)]
noncomputable def ij_t307 : List (Nat × ij_E) := [(0, .aload_n 0, 1, 0, 0, 0), (1, .invokevirtual 212, 3, 137, 0, 20), (4, .invokevirtual 216, 3, 141, 0, 13), (7, .iload_n 1, 1, 0, 0, 0), (8, .invokestatic 254, 3, 166, 2, 1), (11, .istore_n 2, 1, 0, 0, 0), (12, .iload_n 2, 1, 0, 0, 0), (13, .iconst (-1), 1, 0, 0, 0), (14, .if_icmp .ne 12, 3, 0, 0, 0), (17, .aload_n 0, 1, 0, 0, 0), (18, .bipush 6, 2, 0, 0, 0), (20, .invokevirtual 119, 3, 28, 1, 20), (23, .goto 24, 3, 0, 0, 0), (26, .aload_n 0, 1, 0, 0, 0), (27, .aload_n 0, 1, 0, 0, 0), (28, .getfield 67, 3, 10, 9, 0), (31, .iload_n 2, 1, 0, 0, 0), (32, .invokevirtual 263, 3, 171, 1, 13), (35, .i2l, 1, 0, 0, 0), (36, .aload_n 0, 1, 0, 0, 0), (37, .getfield 67, 3, 10, 9, 0), (40, .getfield 304, 3, 3, 3, 0), (43, .i2l, 1, 0, 0, 0), (44, .invokevirtual 362, 3, 301, 2, 20), (47, .ireturn, 1, 0, 0, 0)]
noncomputable def ij_t308 : List (Nat × ij_E) := [(0, .aload_n 0, 1, 0, 0, 0), (1, .iload_n 1, 1, 0, 0, 0), (2, .invokevirtual 307, 3, 169, 1, 21), (5, .ifCond .eq 21, 3, 0, 0, 0), (8, .aload_n 0, 1, 0, 0, 0), (9, .aload_n 0, 1, 0, 0, 0), (10, .iload_n 1, 1, 0, 0, 0), (11, .invokevirtual 310, 3, 173, 1, 21), (14, .i2l, 1, 0, 0, 0), (15, .aload_n 0, 1, 0, 0, 0), (16, .getfield 245, 3, 11, 26, 0), (19, .i2l, 1, 0, 0, 0), (20, .invokevirtual 403, 3, 303, 2, 21), (23, .goto 9, 3, 0, 0, 0), (26, .aload_n 0, 1, 0, 0, 0), (27, .bipush 6, 2, 0, 0, 0), (29, .invokevirtual 125, 3, 33, 1, 21), (32, .ireturn, 1, 0, 0, 0)]
noncomputable def ij_t309 : List (Nat × ij_E) := [(0, .iload_n 1, 1, 0, 0, 0), (1, .ifCond .lt 19, 3, 0, 0, 0), (4, .iload_n 1, 1, 0, 0, 0), (5, .bipush 12, 2, 0, 0, 0), (7, .if_icmp .gt 13, 3, 0, 0, 0), (10, .iload_n 2, 1, 0, 0, 0), (11, .ifCond .lt 9, 3, 0, 0, 0), (14, .iload_n 2, 1, 0, 0, 0), (15, .bipush 12, 2, 0, 0, 0), (17, .if_icmp .le 9, 3, 0, 0, 0), (20, .aload_n 0, 1, 0, 0, 0), (21, .iconst 1, 1, 0, 0, 0), (22, .invokevirtual 119, 3, 28, 1, 20), (25, .ireturn, 1, 0, 0, 0), (26, .aload_n 0, 1, 0, 0, 0), (27, .getfield 53, 3, 10, 7, 0), (30, .iconst 0, 1, 0, 0, 0), (31, .invokevirtual 209, 3, 135, 1, 14), (34, .istore_n 3, 1, 0, 0, 0), (35, .iconst 0, 1, 0, 0, 0), (36, .istore 4, 2, 0, 0, 0), (38, .iload 4, 2, 0, 0, 0), (40, .bipush 12, 2, 0, 0, 0), (42, .if_icmp .gt 26, 3, 0, 0, 0), (45, .aload_n 0, 1, 0, 0, 0), (46, .getfield 85, 3, 10, 12, 0), (49, .iload 4, 2, 0, 0, 0), (51, .iload 4, 2, 0, 0, 0), (53, .ifCond .ne 7, 3, 0, 0, 0), (56, .lconst 1, 1, 0, 0, 0), (57, .goto 4, 3, 0, 0, 0), (60, .lconst 0, 1, 0, 0, 0), (61, .lastore, 1, 0, 0, 0), (62, .iinc 4 1, 3, 0, 0, 0), (65, .goto (-27), 3, 0, 0, 0), (68, .lconst 1, 1, 0, 0, 0), (69, .lstore 4, 2, 0, 0, 0), (71, .iconst 0, 1, 0, 0, 0), (72, .istore 6, 2, 0, 0, 0), (74, .iload 6, 2, 0, 0, 0), (76, .iload_n 1, 1, 0, 0, 0), (77, .if_icmp .ge 83, 3, 0, 0, 0), (80, .bipush 12, 2, 0, 0, 0), (82, .istore 7, 2, 0, 0, 0), (84, .iload 7, 2, 0, 0, 0), (86, .ifCond .le 42, 3, 0, 0, 0), (89, .aload_n 0, 1, 0, 0, 0), (90, .getfield 85, 3, 10, 12, 0), (93, .iload 7, 2, 0, 0, 0), (95, .aload_n 0, 1, 0, 0, 0), (96, .getfield 85, 3, 10, 12, 0), (99, .iload 7, 2, 0, 0, 0), (101, .laload, 1, 0, 0, 0), (102, .bipush 16, 2, 0, 0, 0), (104, .iload_n 3, 1, 0, 0, 0), (105, .isub, 1, 0, 0, 0), (106, .i2l, 1, 0, 0, 0), (107, .lmul, 1, 0, 0, 0), (108, .aload_n 0, 1, 0, 0, 0), (109, .getfield 85, 3, 10, 12, 0), (112, .iload 7, 2, 0, 0, 0), (114, .iconst 1, 1, 0, 0, 0), (115, .isub, 1, 0, 0, 0), (116, .laload, 1, 0, 0, 0), (117, .iload_n 3, 1, 0, 0, 0), (118, .i2l, 1, 0, 0, 0), (119, .lmul, 1, 0, 0, 0), (120, .ladd, 1, 0, 0, 0), (121, .lastore, 1, 0, 0, 0), (122, .iinc 7 (-1), 3, 0, 0, 0), (125, .goto (-41), 3, 0, 0, 0), (128, .aload_n 0, 1, 0, 0, 0), (129, .getfield 85, 3, 10, 12, 0), (132, .iconst 0, 1, 0, 0, 0), (133, .aload_n 0, 1, 0, 0, 0), (134, .getfield 85, 3, 10, 12, 0), (137, .iconst 0, 1, 0, 0, 0), (138, .laload, 1, 0, 0, 0), (139, .bipush 16, 2, 0, 0, 0), (141, .iload_n 3, 1, 0, 0, 0), (142, .isub, 1, 0, 0, 0), (143, .i2l, 1, 0, 0, 0), (144, .lmul, 1, 0, 0, 0), (145, .lastore, 1, 0, 0, 0), (146, .lload 4, 2, 0, 0, 0), (148, .ldc2_w 366, 3, 0, 16, 0), (151, .lmul, 1, 0, 0, 0), (152, .lstore 4, 2, 0, 0, 0), (154, .iinc 6 1, 3, 0, 0, 0), (157, .goto (-83), 3, 0, 0, 0), (160, .lconst 0, 1, 0, 0, 0), (161, .lstore 6, 2, 0, 0, 0), (163, .iload_n 2, 1, 0, 0, 0), (164, .istore 8, 2, 0, 0, 0), (166, .iload 8, 2, 0, 0, 0), (168, .bipush 12, 2, 0, 0, 0), (170, .if_icmp .gt 21, 3, 0, 0, 0), (173, .lload 6, 2, 0, 0, 0), (175, .aload_n 0, 1, 0, 0, 0), (176, .getfield 85, 3, 10, 12, 0), (179, .iload 8, 2, 0, 0, 0), (181, .laload, 1, 0, 0, 0), (182, .ladd, 1, 0, 0, 0), (183, .lstore 6, 2, 0, 0, 0), (185, .iinc 8 1, 3, 0, 0, 0), (188, .goto (-22), 3, 0, 0, 0), (191, .aload_n 0, 1, 0, 0, 0), (192, .lload 6, 2, 0, 0, 0), (194, .lload 4, 2, 0, 0, 0), (196, .invokevirtual 362, 3, 301, 2, 20), (199, .ireturn, 1, 0, 0, 0)]
noncomputable def ij_t310 : List (Nat × ij_E) := [(0, .iload_n 1, 1, 0, 0, 0), (1, .i2l, 1, 0, 0, 0), (2, .lconst 0, 1, 0, 0, 0), (3, .ldc2_w 407, 3, 0, 12, 0), (6, .invokestatic 289, 3, 149, 3, 1), (9, .ifCond .eq 15, 3, 0, 0, 0), (12, .iload_n 2, 1, 0, 0, 0), (13, .i2l, 1, 0, 0, 0), (14, .lconst 0, 1, 0, 0, 0), (15, .ldc2_w 407, 3, 0, 12, 0), (18, .invokestatic 289, 3, 149, 3, 1), (21, .ifCond .ne 9, 3, 0, 0, 0), (24, .aload_n 0, 1, 0, 0, 0), (25, .iconst 1, 1, 0, 0, 0), (26, .invokevirtual 125, 3, 33, 1, 21), (29, .ireturn, 1, 0, 0, 0), (30, .lconst 1, 1, 0, 0, 0), (31, .lstore_n 3, 1, 0, 0, 0), (32, .iconst 0, 1, 0, 0, 0), (33, .istore 5, 2, 0, 0, 0), (35, .iload 5, 2, 0, 0, 0), (37, .bipush 13, 2, 0, 0, 0), (39, .if_icmp .ge 26, 3, 0, 0, 0), (42, .aload_n 0, 1, 0, 0, 0), (43, .getfield 87, 3, 11, 42, 0), (46, .iload 5, 2, 0, 0, 0), (48, .iload 5, 2, 0, 0, 0), (50, .ifCond .ne 7, 3, 0, 0, 0), (53, .lconst 1, 1, 0, 0, 0), (54, .goto 4, 3, 0, 0, 0), (57, .lconst 0, 1, 0, 0, 0), (58, .lastore, 1, 0, 0, 0), (59, .iinc 5 1, 3, 0, 0, 0), (62, .goto (-27), 3, 0, 0, 0), (65, .iconst 0, 1, 0, 0, 0), (66, .istore 5, 2, 0, 0, 0), (68, .iload 5, 2, 0, 0, 0), (70, .iload_n 1, 1, 0, 0, 0), (71, .if_icmp .ge 82, 3, 0, 0, 0), (74, .bipush 12, 2, 0, 0, 0), (76, .istore 6, 2, 0, 0, 0), (78, .iload 6, 2, 0, 0, 0), (80, .ifCond .lt 61, 3, 0, 0, 0), (83, .aload_n 0, 1, 0, 0, 0), (84, .getfield 87, 3, 11, 42, 0), (87, .iload 6, 2, 0, 0, 0), (89, .aload_n 0, 1, 0, 0, 0), (90, .getfield 87, 3, 11, 42, 0), (93, .iload 6, 2, 0, 0, 0), (95, .laload, 1, 0, 0, 0), (96, .bipush 16, 2, 0, 0, 0), (98, .aload_n 0, 1, 0, 0, 0), (99, .getfield 7, 3, 11, 0, 0), (102, .iconst 0, 1, 0, 0, 0), (103, .iaload, 1, 0, 0, 0), (104, .isub, 1, 0, 0, 0), (105, .i2l, 1, 0, 0, 0), (106, .lmul, 1, 0, 0, 0), (107, .iload 6, 2, 0, 0, 0), (109, .ifCond .ne 7, 3, 0, 0, 0), (112, .lconst 0, 1, 0, 0, 0), (113, .goto 20, 3, 0, 0, 0), (116, .aload_n 0, 1, 0, 0, 0), (117, .getfield 87, 3, 11, 42, 0), (120, .iload 6, 2, 0, 0, 0), (122, .iconst 1, 1, 0, 0, 0), (123, .isub, 1, 0, 0, 0), (124, .laload, 1, 0, 0, 0), (125, .aload_n 0, 1, 0, 0, 0), (126, .getfield 7, 3, 11, 0, 0), (129, .iconst 0, 1, 0, 0, 0), (130, .iaload, 1, 0, 0, 0), (131, .i2l, 1, 0, 0, 0), (132, .lmul, 1, 0, 0, 0), (133, .ladd, 1, 0, 0, 0), (134, .lastore, 1, 0, 0, 0), (135, .iinc 6 (-1), 3, 0, 0, 0), (138, .goto (-60), 3, 0, 0, 0), (141, .lload_n 3, 1, 0, 0, 0), (142, .ldc2_w 409, 3, 0, 16, 0), (145, .lmul, 1, 0, 0, 0), (146, .lstore_n 3, 1, 0, 0, 0), (147, .iinc 5 1, 3, 0, 0, 0), (150, .goto (-82), 3, 0, 0, 0), (153, .lconst 0, 1, 0, 0, 0), (154, .lstore 5, 2, 0, 0, 0), (156, .iload_n 2, 1, 0, 0, 0), (157, .istore 7, 2, 0, 0, 0), (159, .iload 7, 2, 0, 0, 0), (161, .bipush 13, 2, 0, 0, 0), (163, .if_icmp .ge 21, 3, 0, 0, 0), (166, .lload 5, 2, 0, 0, 0), (168, .aload_n 0, 1, 0, 0, 0), (169, .getfield 87, 3, 11, 42, 0), (172, .iload 7, 2, 0, 0, 0), (174, .laload, 1, 0, 0, 0), (175, .ladd, 1, 0, 0, 0), (176, .lstore 5, 2, 0, 0, 0), (178, .iinc 7 1, 3, 0, 0, 0), (181, .goto (-22), 3, 0, 0, 0), (184, .aload_n 0, 1, 0, 0, 0), (185, .lload 5, 2, 0, 0, 0), (187, .lload_n 3, 1, 0, 0, 0), (188, .invokevirtual 403, 3, 303, 2, 21), (191, .ireturn, 1, 0, 0, 0)]
noncomputable def ij_t311 : List (Nat × ij_E) := [(0, .aload_n 0, 1, 0, 0, 0), (1, .ifnonnull 5, 3, 0, 0, 0), (4, .iconst 1, 1, 0, 0, 0), (5, .ireturn, 1, 0, 0, 0), (6, .aload_n 0, 1, 0, 0, 0), (7, .invokevirtual 147, 3, 35, 0, 18), (10, .ifCond .eq 5, 3, 0, 0, 0), (13, .iconst 2, 1, 0, 0, 0), (14, .ireturn, 1, 0, 0, 0), (15, .aload_n 0, 1, 0, 0, 0), (16, .iconst 0, 1, 0, 0, 0), (17, .iload_n 1, 1, 0, 0, 0), (18, .invokevirtual 153, 3, 48, 2, 18), (21, .ifCond .eq 7, 3, 0, 0, 0), (24, .iconst 0, 1, 0, 0, 0), (25, .goto 4, 3, 0, 0, 0), (28, .iconst 3, 1, 0, 0, 0), (29, .ireturn, 1, 0, 0, 0)]
noncomputable def ij_t312 : List (Nat × ij_E) := [(0, .aload_n 0, 1, 0, 0, 0), (1, .iload_n 1, 1, 0, 0, 0), (2, .invokevirtual 115, 3, 27, 1, 20), (5, .astore_n 2, 1, 0, 0, 0), (6, .aload_n 0, 1, 0, 0, 0), (7, .getfield 53, 3, 10, 7, 0), (10, .invokevirtual 187, 3, 89, 0, 14), (13, .istore_n 3, 1, 0, 0, 0), (14, .aload_n 2, 1, 0, 0, 0), (15, .iload_n 3, 1, 0, 0, 0), (16, .invokestatic 368, 3, 311, 2, 1), (19, .istore 4, 2, 0, 0, 0), (21, .aload_n 2, 1, 0, 0, 0), (22, .ifnull 8, 3, 0, 0, 0), (25, .iload 4, 2, 0, 0, 0), (27, .ifCond .eq 10, 3, 0, 0, 0), (30, .aload_n 0, 1, 0, 0, 0), (31, .iload 4, 2, 0, 0, 0), (33, .invokevirtual 139, 3, 44, 1, 20), (36, .ireturn, 1, 0, 0, 0), (37, .aload_n 0, 1, 0, 0, 0), (38, .invokevirtual 212, 3, 137, 0, 20), (41, .astore 5, 2, 0, 0, 0), (43, .iconst 0, 1, 0, 0, 0), (44, .istore 6, 2, 0, 0, 0), (46, .iload 6, 2, 0, 0, 0), (48, .iload_n 3, 1, 0, 0, 0), (49, .if_icmp .ge 23, 3, 0, 0, 0), (52, .aload_n 2, 1, 0, 0, 0), (53, .iload 6, 2, 0, 0, 0), (55, .aload 5, 2, 0, 0, 0), (57, .iload 6, 2, 0, 0, 0), (59, .invokevirtual 238, 3, 138, 1, 13), (62, .i2l, 1, 0, 0, 0), (63, .invokevirtual 135, 3, 39, 2, 18), (66, .iinc 6 1, 3, 0, 0, 0), (69, .goto (-23), 3, 0, 0, 0), (72, .aload_n 0, 1, 0, 0, 0), (73, .iload_n 3, 1, 0, 0, 0), (74, .invokevirtual 191, 3, 90, 1, 20), (77, .ireturn, 1, 0, 0, 0)]
noncomputable def ij_t313 : List (Nat × ij_E) := [(0, .iload_n 1, 1, 0, 0, 0), (1, .invokestatic 129, 3, 32, 1, 1), (4, .ifCond .ne 9, 3, 0, 0, 0), (7, .aload_n 0, 1, 0, 0, 0), (8, .iconst 1, 1, 0, 0, 0), (9, .invokevirtual 118, 3, 98, 1, 21), (12, .ireturn, 1, 0, 0, 0), (13, .aload_n 0, 1, 0, 0, 0), (14, .invokevirtual 242, 3, 114, 0, 21), (17, .aload_n 0, 1, 0, 0, 0), (18, .getfield 20, 3, 11, 5, 0), (21, .iload_n 1, 1, 0, 0, 0), (22, .iaload, 1, 0, 0, 0), (23, .iconst (-1), 1, 0, 0, 0), (24, .if_icmp .ne 9, 3, 0, 0, 0), (27, .aload_n 0, 1, 0, 0, 0), (28, .iconst 2, 1, 0, 0, 0), (29, .invokevirtual 118, 3, 98, 1, 21), (32, .ireturn, 1, 0, 0, 0), (33, .aload_n 0, 1, 0, 0, 0), (34, .getfield 20, 3, 11, 5, 0), (37, .iload_n 1, 1, 0, 0, 0), (38, .iaload, 1, 0, 0, 0), (39, .aload_n 0, 1, 0, 0, 0), (40, .getfield 245, 3, 11, 26, 0), (43, .if_icmp .ge 9, 3, 0, 0, 0), (46, .aload_n 0, 1, 0, 0, 0), (47, .iconst 3, 1, 0, 0, 0), (48, .invokevirtual 118, 3, 98, 1, 21), (51, .ireturn, 1, 0, 0, 0), (52, .iconst 0, 1, 0, 0, 0), (53, .istore_n 2, 1, 0, 0, 0), (54, .iload_n 2, 1, 0, 0, 0), (55, .aload_n 0, 1, 0, 0, 0), (56, .getfield 245, 3, 11, 26, 0), (59, .if_icmp .ge 36, 3, 0, 0, 0), (62, .aload_n 0, 1, 0, 0, 0), (63, .getfield 23, 3, 11, 6, 0), (66, .bipush 60, 2, 0, 0, 0), (68, .iload_n 1, 1, 0, 0, 0), (69, .imul, 1, 0, 0, 0), (70, .iload_n 2, 1, 0, 0, 0), (71, .iadd, 1, 0, 0, 0), (72, .aload_n 0, 1, 0, 0, 0), (73, .getfield 44, 3, 11, 22, 0), (76, .iload_n 2, 1, 0, 0, 0), (77, .iaload, 1, 0, 0, 0), (78, .i2l, 1, 0, 0, 0), (79, .aload_n 0, 1, 0, 0, 0), (80, .getfield 17, 3, 11, 4, 0), (83, .iload_n 1, 1, 0, 0, 0), (84, .iaload, 1, 0, 0, 0), (85, .invokestatic 136, 3, 42, 2, 1), (88, .lastore, 1, 0, 0, 0), (89, .iinc 2 1, 3, 0, 0, 0), (92, .goto (-38), 3, 0, 0, 0), (95, .aload_n 0, 1, 0, 0, 0), (96, .aload_n 0, 1, 0, 0, 0), (97, .getfield 245, 3, 11, 26, 0), (100, .invokevirtual 122, 3, 115, 1, 21), (103, .ireturn, 1, 0, 0, 0)]
noncomputable def ij_t314 : List (Nat × ij_E) := [(0, .aload_n 0, 1, 0, 0, 0), (1, .getfield 53, 3, 10, 7, 0), (4, .iload_n 1, 1, 0, 0, 0), (5, .invokevirtual 244, 3, 155, 1, 14), (8, .ifCond .eq 14, 3, 0, 0, 0), (11, .aload_n 0, 1, 0, 0, 0), (12, .getfield 53, 3, 10, 7, 0), (15, .iload_n 2, 1, 0, 0, 0), (16, .invokevirtual 244, 3, 155, 1, 14), (19, .ifCond .ne 5, 3, 0, 0, 0), (22, .iconst 0, 1, 0, 0, 0), (23, .ireturn, 1, 0, 0, 0), (24, .aload_n 0, 1, 0, 0, 0), (25, .getfield 53, 3, 10, 7, 0), (28, .invokevirtual 187, 3, 89, 0, 14), (31, .istore_n 3, 1, 0, 0, 0), (32, .aload_n 0, 1, 0, 0, 0), (33, .iload_n 1, 1, 0, 0, 0), (34, .invokevirtual 247, 3, 156, 1, 20), (37, .aload_n 0, 1, 0, 0, 0), (38, .iload_n 2, 1, 0, 0, 0), (39, .invokevirtual 247, 3, 156, 1, 20), (42, .isub, 1, 0, 0, 0), (43, .invokestatic 323, 3, 239, 1, 1), (46, .istore 4, 2, 0, 0, 0), (48, .iload_n 3, 1, 0, 0, 0), (49, .iconst 1, 1, 0, 0, 0), (50, .if_icmp .eq 17, 3, 0, 0, 0), (53, .iload 4, 2, 0, 0, 0), (55, .iconst 1, 1, 0, 0, 0), (56, .if_icmp .eq 11, 3, 0, 0, 0), (59, .iload 4, 2, 0, 0, 0), (61, .iload_n 3, 1, 0, 0, 0), (62, .iconst 1, 1, 0, 0, 0), (63, .isub, 1, 0, 0, 0), (64, .if_icmp .ne 7, 3, 0, 0, 0), (67, .iconst 1, 1, 0, 0, 0), (68, .goto 4, 3, 0, 0, 0), (71, .iconst 0, 1, 0, 0, 0), (72, .ireturn, 1, 0, 0, 0)]
noncomputable def ij_t315 : List (Nat × ij_E) := [(0, .aload_n 0, 1, 0, 0, 0), (1, .iload_n 1, 1, 0, 0, 0), (2, .invokevirtual 115, 3, 27, 1, 20), (5, .astore_n 3, 1, 0, 0, 0), (6, .iload_n 2, 1, 0, 0, 0), (7, .ifCond .lt 9, 3, 0, 0, 0), (10, .iload_n 2, 1, 0, 0, 0), (11, .bipush 60, 2, 0, 0, 0), (13, .if_icmp .le 7, 3, 0, 0, 0), (16, .iconst 1, 1, 0, 0, 0), (17, .goto 8, 3, 0, 0, 0), (20, .aload_n 3, 1, 0, 0, 0), (21, .iload_n 2, 1, 0, 0, 0), (22, .invokestatic 368, 3, 311, 2, 1), (25, .istore 4, 2, 0, 0, 0), (27, .aload_n 3, 1, 0, 0, 0), (28, .ifnull 8, 3, 0, 0, 0), (31, .iload 4, 2, 0, 0, 0), (33, .ifCond .eq 10, 3, 0, 0, 0), (36, .aload_n 0, 1, 0, 0, 0), (37, .iload 4, 2, 0, 0, 0), (39, .invokevirtual 139, 3, 44, 1, 20), (42, .ireturn, 1, 0, 0, 0), (43, .iconst 0, 1, 0, 0, 0), (44, .istore 5, 2, 0, 0, 0), (46, .iload 5, 2, 0, 0, 0), (48, .iload_n 2, 1, 0, 0, 0), (49, .if_icmp .ge 44, 3, 0, 0, 0), (52, .aload_n 3, 1, 0, 0, 0), (53, .iload 5, 2, 0, 0, 0), (55, .invokevirtual 143, 3, 45, 1, 18), (58, .lconst 0, 1, 0, 0, 0), (59, .lcmp, 1, 0, 0, 0), (60, .ifCond .lt 21, 3, 0, 0, 0), (63, .aload_n 3, 1, 0, 0, 0), (64, .iload 5, 2, 0, 0, 0), (66, .invokevirtual 143, 3, 45, 1, 18), (69, .aload_n 0, 1, 0, 0, 0), (70, .getfield 53, 3, 10, 7, 0), (73, .invokevirtual 266, 3, 80, 0, 14), (76, .i2l, 1, 0, 0, 0), (77, .lcmp, 1, 0, 0, 0), (78, .ifCond .lt 9, 3, 0, 0, 0), (81, .aload_n 0, 1, 0, 0, 0), (82, .iconst 5, 1, 0, 0, 0), (83, .invokevirtual 139, 3, 44, 1, 20), (86, .ireturn, 1, 0, 0, 0), (87, .iinc 5 1, 3, 0, 0, 0), (90, .goto (-44), 3, 0, 0, 0), (93, .iconst 0, 1, 0, 0, 0), (94, .istore 5, 2, 0, 0, 0), (96, .iconst 1, 1, 0, 0, 0), (97, .istore 6, 2, 0, 0, 0), (99, .iload 6, 2, 0, 0, 0), (101, .iload_n 2, 1, 0, 0, 0), (102, .if_icmp .ge 42, 3, 0, 0, 0), (105, .iload 5, 2, 0, 0, 0), (107, .aload_n 0, 1, 0, 0, 0), (108, .aload_n 3, 1, 0, 0, 0), (109, .iload 6, 2, 0, 0, 0), (111, .iconst 1, 1, 0, 0, 0), (112, .isub, 1, 0, 0, 0), (113, .invokevirtual 143, 3, 45, 1, 18), (116, .l2i, 1, 0, 0, 0), (117, .aload_n 3, 1, 0, 0, 0), (118, .iload 6, 2, 0, 0, 0), (120, .invokevirtual 143, 3, 45, 1, 18), (123, .l2i, 1, 0, 0, 0), (124, .invokevirtual 371, 3, 314, 2, 20), (127, .ifCond .eq 7, 3, 0, 0, 0), (130, .iconst 1, 1, 0, 0, 0), (131, .goto 4, 3, 0, 0, 0), (134, .iconst 0, 1, 0, 0, 0), (135, .iadd, 1, 0, 0, 0), (136, .istore 5, 2, 0, 0, 0), (138, .iinc 6 1, 3, 0, 0, 0), (141, .goto (-42), 3, 0, 0, 0), (144, .aload_n 0, 1, 0, 0, 0), (145, .iload 5, 2, 0, 0, 0), (147, .invokevirtual 191, 3, 90, 1, 20), (150, .ireturn, 1, 0, 0, 0)]
noncomputable def ij_t316 : List (Nat × ij_E) := [(0, .aload_n 0, 1, 0, 0, 0), (1, .getfield 50, 3, 11, 24, 0), (4, .iload_n 1, 1, 0, 0, 0), (5, .iaload, 1, 0, 0, 0), (6, .istore_n 3, 1, 0, 0, 0), (7, .aload_n 0, 1, 0, 0, 0), (8, .getfield 50, 3, 11, 24, 0), (11, .iload_n 2, 1, 0, 0, 0), (12, .iaload, 1, 0, 0, 0), (13, .istore 4, 2, 0, 0, 0), (15, .iload_n 3, 1, 0, 0, 0), (16, .iconst (-1), 1, 0, 0, 0), (17, .if_icmp .eq 39, 3, 0, 0, 0), (20, .iload 4, 2, 0, 0, 0), (22, .iconst (-1), 1, 0, 0, 0), (23, .if_icmp .eq 33, 3, 0, 0, 0), (26, .iload_n 3, 1, 0, 0, 0), (27, .iconst 1, 1, 0, 0, 0), (28, .iadd, 1, 0, 0, 0), (29, .aload_n 0, 1, 0, 0, 0), (30, .getfield 245, 3, 11, 26, 0), (33, .irem, 1, 0, 0, 0), (34, .iload 4, 2, 0, 0, 0), (36, .if_icmp .eq 16, 3, 0, 0, 0), (39, .iload 4, 2, 0, 0, 0), (41, .iconst 1, 1, 0, 0, 0), (42, .iadd, 1, 0, 0, 0), (43, .aload_n 0, 1, 0, 0, 0), (44, .getfield 245, 3, 11, 26, 0), (47, .irem, 1, 0, 0, 0), (48, .iload_n 3, 1, 0, 0, 0), (49, .if_icmp .ne 7, 3, 0, 0, 0), (52, .iconst 1, 1, 0, 0, 0), (53, .goto 4, 3, 0, 0, 0), (56, .iconst 0, 1, 0, 0, 0), (57, .ireturn, 1, 0, 0, 0)]
noncomputable def ij_t317 : List (Nat × ij_E) := [(0, .iload_n 1, 1, 0, 0, 0), (1, .invokestatic 129, 3, 32, 1, 1), (4, .ifCond .eq 15, 3, 0, 0, 0), (7, .iload_n 2, 1, 0, 0, 0), (8, .i2l, 1, 0, 0, 0), (9, .lconst 0, 1, 0, 0, 0), (10, .ldc2_w 287, 3, 0, 60, 0), (13, .invokestatic 289, 3, 149, 3, 1), (16, .ifCond .ne 9, 3, 0, 0, 0), (19, .aload_n 0, 1, 0, 0, 0), (20, .iconst 1, 1, 0, 0, 0), (21, .invokevirtual 118, 3, 98, 1, 21), (24, .ireturn, 1, 0, 0, 0), (25, .aload_n 0, 1, 0, 0, 0), (26, .getfield 20, 3, 11, 5, 0), (29, .iload_n 1, 1, 0, 0, 0), (30, .iaload, 1, 0, 0, 0), (31, .iconst (-1), 1, 0, 0, 0), (32, .if_icmp .ne 9, 3, 0, 0, 0), (35, .aload_n 0, 1, 0, 0, 0), (36, .iconst 2, 1, 0, 0, 0), (37, .invokevirtual 118, 3, 98, 1, 21), (40, .ireturn, 1, 0, 0, 0), (41, .aload_n 0, 1, 0, 0, 0), (42, .getfield 20, 3, 11, 5, 0), (45, .iload_n 1, 1, 0, 0, 0), (46, .iaload, 1, 0, 0, 0), (47, .iload_n 2, 1, 0, 0, 0), (48, .if_icmp .ge 9, 3, 0, 0, 0), (51, .aload_n 0, 1, 0, 0, 0), (52, .iconst 3, 1, 0, 0, 0), (53, .invokevirtual 118, 3, 98, 1, 21), (56, .ireturn, 1, 0, 0, 0), (57, .bipush 60, 2, 0, 0, 0), (59, .iload_n 1, 1, 0, 0, 0), (60, .imul, 1, 0, 0, 0), (61, .istore_n 3, 1, 0, 0, 0), (62, .iconst 0, 1, 0, 0, 0), (63, .istore 4, 2, 0, 0, 0), (65, .iload 4, 2, 0, 0, 0), (67, .iload_n 2, 1, 0, 0, 0), (68, .if_icmp .ge 40, 3, 0, 0, 0), (71, .aload_n 0, 1, 0, 0, 0), (72, .getfield 23, 3, 11, 6, 0), (75, .iload_n 3, 1, 0, 0, 0), (76, .iload 4, 2, 0, 0, 0), (78, .iadd, 1, 0, 0, 0), (79, .laload, 1, 0, 0, 0), (80, .lconst 0, 1, 0, 0, 0), (81, .aload_n 0, 1, 0, 0, 0), (82, .getfield 7, 3, 11, 0, 0), (85, .iconst 1, 1, 0, 0, 0), (86, .iaload, 1, 0, 0, 0), (87, .i2l, 1, 0, 0, 0), (88, .lconst 1, 1, 0, 0, 0), (89, .lsub, 1, 0, 0, 0), (90, .invokestatic 289, 3, 149, 3, 1), (93, .ifCond .ne 9, 3, 0, 0, 0), (96, .aload_n 0, 1, 0, 0, 0), (97, .iconst 5, 1, 0, 0, 0), (98, .invokevirtual 118, 3, 98, 1, 21), (101, .ireturn, 1, 0, 0, 0), (102, .iinc 4 1, 3, 0, 0, 0), (105, .goto (-40), 3, 0, 0, 0), (108, .aload_n 0, 1, 0, 0, 0), (109, .invokevirtual 242, 3, 114, 0, 21), (112, .iconst 0, 1, 0, 0, 0), (113, .istore 4, 2, 0, 0, 0), (115, .iconst 1, 1, 0, 0, 0), (116, .istore 5, 2, 0, 0, 0), (118, .iload 5, 2, 0, 0, 0), (120, .iload_n 2, 1, 0, 0, 0), (121, .if_icmp .ge 48, 3, 0, 0, 0), (124, .iload 4, 2, 0, 0, 0), (126, .aload_n 0, 1, 0, 0, 0), (127, .aload_n 0, 1, 0, 0, 0), (128, .getfield 23, 3, 11, 6, 0), (131, .iload_n 3, 1, 0, 0, 0), (132, .iload 5, 2, 0, 0, 0), (134, .iadd, 1, 0, 0, 0), (135, .iconst 1, 1, 0, 0, 0), (136, .isub, 1, 0, 0, 0), (137, .laload, 1, 0, 0, 0), (138, .l2i, 1, 0, 0, 0), (139, .aload_n 0, 1, 0, 0, 0), (140, .getfield 23, 3, 11, 6, 0), (143, .iload_n 3, 1, 0, 0, 0), (144, .iload 5, 2, 0, 0, 0), (146, .iadd, 1, 0, 0, 0), (147, .laload, 1, 0, 0, 0), (148, .l2i, 1, 0, 0, 0), (149, .invokevirtual 411, 3, 316, 2, 21), (152, .ifCond .eq 7, 3, 0, 0, 0), (155, .iconst 1, 1, 0, 0, 0), (156, .goto 4, 3, 0, 0, 0), (159, .iconst 0, 1, 0, 0, 0), (160, .iadd, 1, 0, 0, 0), (161, .istore 4, 2, 0, 0, 0), (163, .iinc 5 1, 3, 0, 0, 0), (166, .goto (-48), 3, 0, 0, 0), (169, .aload_n 0, 1, 0, 0, 0), (170, .iload 4, 2, 0, 0, 0), (172, .invokevirtual 122, 3, 115, 1, 21), (175, .ireturn, 1, 0, 0, 0)]
noncomputable def ij_t318 : List (Nat × ij_E) := [(0, .aload_n 0, 1, 0, 0, 0), (1, .getfield 29, 3, 1, 7, 0), (4, .ifCond .le 25, 3, 0, 0, 0), (7, .aload_n 0, 1, 0, 0, 0), (8, .getfield 29, 3, 1, 7, 0), (11, .iconst 3, 1, 0, 0, 0), (12, .if_icmp .gt 17, 3, 0, 0, 0), (15, .aload_n 0, 1, 0, 0, 0), (16, .getfield 22, 3, 1, 5, 0), (19, .aload_n 0, 1, 0, 0, 0), (20, .getfield 29, 3, 1, 7, 0), (23, .iconst 1, 1, 0, 0, 0), (24, .isub, 1, 0, 0, 0), (25, .iaload, 1, 0, 0, 0), (26, .goto 4, 3, 0, 0, 0), (29, .iconst (-1), 1, 0, 0, 0), (30, .ireturn, 1, 0, 0, 0)]
noncomputable def ij_t319 : List (Nat × ij_E) := [(0, .aload_n 0, 1, 0, 0, 0), (1, .invokevirtual 81, 3, 318, 0, 11), (4, .istore_n 1, 1, 0, 0, 0), (5, .aload_n 0, 1, 0, 0, 0), (6, .getfield 60, 3, 1, 1, 0), (9, .iload_n 1, 1, 0, 0, 0), (10, .invokevirtual 85, 3, 118, 1, 16), (13, .ifCond .eq 23, 3, 0, 0, 0), (16, .aload_n 0, 1, 0, 0, 0), (17, .getfield 15, 3, 1, 3, 0), (20, .aload_n 0, 1, 0, 0, 0), (21, .getfield 60, 3, 1, 1, 0), (24, .getfield 91, 3, 6, 3, 0), (27, .iload_n 1, 1, 0, 0, 0), (28, .iaload, 1, 0, 0, 0), (29, .if_icmp .ne 7, 3, 0, 0, 0), (32, .iconst 1, 1, 0, 0, 0), (33, .goto 4, 3, 0, 0, 0), (36, .iconst 0, 1, 0, 0, 0), (37, .ireturn, 1, 0, 0, 0)]
noncomputable def ij_t320 : List (Nat × ij_E) := [(0, .aload_n 0, 1, 0, 0, 0), (1, .getfield 56, 3, 1, 0, 0), (4, .iload_n 1, 1, 0, 0, 0), (5, .invokevirtual 134, 3, 182, 1, 14), (8, .pop, 1, 0, 0, 0), (9, .aload_n 0, 1, 0, 0, 0), (10, .getfield 47, 3, 1, 13, 0), (13, .ifCond .lt 25, 3, 0, 0, 0), (16, .aload_n 0, 1, 0, 0, 0), (17, .getfield 47, 3, 1, 13, 0), (20, .aload_n 0, 1, 0, 0, 0), (21, .getfield 53, 3, 1, 15, 0), (24, .arraylength, 1, 0, 0, 0), (25, .if_icmp .ge 13, 3, 0, 0, 0), (28, .aload_n 0, 1, 0, 0, 0), (29, .getfield 53, 3, 1, 15, 0), (32, .aload_n 0, 1, 0, 0, 0), (33, .getfield 47, 3, 1, 13, 0), (36, .iload_n 1, 1, 0, 0, 0), (37, .iastore, 1, 0, 0, 0), (38, .aload_n 0, 1, 0, 0, 0), (39, .dup, 1, 0, 0, 0), (40, .getfield 47, 3, 1, 13, 0), (43, .iconst 1, 1, 0, 0, 0), (44, .iadd, 1, 0, 0, 0), (45, .putfield 47, 3, 1, 13, 0), (48, .return_, 1, 0, 0, 0)]
noncomputable def ij_t321 : List (Nat × ij_E) := [(0, .aload_n 0, 1, 0, 0, 0), (1, .invokevirtual 81, 3, 318, 0, 11), (4, .istore_n 1, 1, 0, 0, 0), (5, .aload_n 0, 1, 0, 0, 0), (6, .getfield 60, 3, 1, 1, 0), (9, .iload_n 1, 1, 0, 0, 0), (10, .invokevirtual 85, 3, 118, 1, 16), (13, .ifCond .ne 11, 3, 0, 0, 0), (16, .aload_n 0, 1, 0, 0, 0), (17, .iconst 1, 1, 0, 0, 0), (18, .putfield 18, 3, 1, 4, 0), (21, .goto 91, 3, 0, 0, 0), (24, .aload_n 0, 1, 0, 0, 0), (25, .getfield 60, 3, 1, 1, 0), (28, .getfield 94, 3, 6, 0, 0), (31, .iload_n 1, 1, 0, 0, 0), (32, .iaload, 1, 0, 0, 0), (33, .iconst 4, 1, 0, 0, 0), (34, .if_icmp .ne 29, 3, 0, 0, 0), (37, .aload_n 0, 1, 0, 0, 0), (38, .dup, 1, 0, 0, 0), (39, .getfield 29, 3, 1, 7, 0), (42, .iconst 1, 1, 0, 0, 0), (43, .isub, 1, 0, 0, 0), (44, .putfield 29, 3, 1, 7, 0), (47, .aload_n 0, 1, 0, 0, 0), (48, .aload_n 0, 1, 0, 0, 0), (49, .getfield 60, 3, 1, 1, 0), (52, .getfield 97, 3, 6, 2, 0), (55, .iload_n 1, 1, 0, 0, 0), (56, .iaload, 1, 0, 0, 0), (57, .invokevirtual 100, 3, 320, 1, 11), (60, .goto 52, 3, 0, 0, 0), (63, .aload_n 0, 1, 0, 0, 0), (64, .getfield 26, 3, 1, 6, 0), (67, .aload_n 0, 1, 0, 0, 0), (68, .getfield 29, 3, 1, 7, 0), (71, .iconst 1, 1, 0, 0, 0), (72, .isub, 1, 0, 0, 0), (73, .dup2, 1, 0, 0, 0), (74, .iaload, 1, 0, 0, 0), (75, .iconst 1, 1, 0, 0, 0), (76, .isub, 1, 0, 0, 0), (77, .iastore, 1, 0, 0, 0), (78, .aload_n 0, 1, 0, 0, 0), (79, .getfield 26, 3, 1, 6, 0), (82, .aload_n 0, 1, 0, 0, 0), (83, .getfield 29, 3, 1, 7, 0), (86, .iconst 1, 1, 0, 0, 0), (87, .isub, 1, 0, 0, 0), (88, .iaload, 1, 0, 0, 0), (89, .ifCond .le 13, 3, 0, 0, 0), (92, .aload_n 0, 1, 0, 0, 0), (93, .iload_n 1, 1, 0, 0, 0), (94, .iconst 1, 1, 0, 0, 0), (95, .iadd, 1, 0, 0, 0), (96, .putfield 15, 3, 1, 3, 0), (99, .goto 13, 3, 0, 0, 0), (102, .aload_n 0, 1, 0, 0, 0), (103, .dup, 1, 0, 0, 0), (104, .getfield 29, 3, 1, 7, 0), (107, .iconst 1, 1, 0, 0, 0), (108, .isub, 1, 0, 0, 0), (109, .putfield 29, 3, 1, 7, 0), (112, .return_, 1, 0, 0, 0)]
noncomputable def ij_t322 : List (Nat × ij_E) := [(0, .aload_n 0, 1, 0, 0, 0), (1, .getfield 60, 3, 1, 1, 0), (4, .aload_n 0, 1, 0, 0, 0), (5, .getfield 15, 3, 1, 3, 0), (8, .invokevirtual 85, 3, 118, 1, 16), (11, .istore_n 1, 1, 0, 0, 0), (12, .aload_n 0, 1, 0, 0, 0), (13, .iload_n 1, 1, 0, 0, 0), (14, .ifCond .eq 17, 3, 0, 0, 0), (17, .aload_n 0, 1, 0, 0, 0), (18, .getfield 35, 3, 1, 9, 0), (21, .sipush 300, 3, 0, 0, 0), (24, .if_icmp .lt 7, 3, 0, 0, 0), (27, .iconst 1, 1, 0, 0, 0), (28, .goto 4, 3, 0, 0, 0), (31, .iconst 0, 1, 0, 0, 0), (32, .putfield 50, 3, 1, 14, 0), (35, .aload_n 0, 1, 0, 0, 0), (36, .iload_n 1, 1, 0, 0, 0), (37, .ifCond .eq 10, 3, 0, 0, 0), (40, .aload_n 0, 1, 0, 0, 0), (41, .getfield 50, 3, 1, 14, 0), (44, .ifCond .eq 7, 3, 0, 0, 0), (47, .iconst 1, 1, 0, 0, 0), (48, .goto 4, 3, 0, 0, 0), (51, .iconst 0, 1, 0, 0, 0), (52, .putfield 18, 3, 1, 4, 0), (55, .aload_n 0, 1, 0, 0, 0), (56, .dup, 1, 0, 0, 0), (57, .getfield 35, 3, 1, 9, 0), (60, .aload_n 0, 1, 0, 0, 0), (61, .getfield 18, 3, 1, 4, 0), (64, .ifCond .eq 7, 3, 0, 0, 0), (67, .iconst 0, 1, 0, 0, 0), (68, .goto 4, 3, 0, 0, 0), (71, .iconst 1, 1, 0, 0, 0), (72, .iadd, 1, 0, 0, 0), (73, .putfield 35, 3, 1, 9, 0), (76, .aload_n 0, 1, 0, 0, 0), (77, .getfield 18, 3, 1, 4, 0), (80, .ifCond .ne 7, 3, 0, 0, 0), (83, .iconst 1, 1, 0, 0, 0), (84, .goto 4, 3, 0, 0, 0), (87, .iconst 0, 1, 0, 0, 0), (88, .ireturn, 1, 0, 0, 0)]
noncomputable def ij_t323 : List (Nat × ij_E) := [(0, .aload_n 0, 1, 0, 0, 0), (1, .getfield 56, 3, 1, 0, 0), (4, .iload_n 1, 1, 0, 0, 0), (5, .invokevirtual 131, 3, 178, 1, 14), (8, .istore_n 2, 1, 0, 0, 0), (9, .aload_n 0, 1, 0, 0, 0), (10, .dup, 1, 0, 0, 0), (11, .getfield 41, 3, 1, 11, 0), (14, .iload_n 2, 1, 0, 0, 0), (15, .ifCond .eq 7, 3, 0, 0, 0), (18, .iconst 1, 1, 0, 0, 0), (19, .goto 4, 3, 0, 0, 0), (22, .iconst 0, 1, 0, 0, 0), (23, .iadd, 1, 0, 0, 0), (24, .putfield 41, 3, 1, 11, 0), (27, .aload_n 0, 1, 0, 0, 0), (28, .dup, 1, 0, 0, 0), (29, .getfield 38, 3, 1, 10, 0), (32, .iload_n 2, 1, 0, 0, 0), (33, .ifCond .eq 7, 3, 0, 0, 0), (36, .iconst 0, 1, 0, 0, 0), (37, .goto 4, 3, 0, 0, 0), (40, .iconst 1, 1, 0, 0, 0), (41, .iadd, 1, 0, 0, 0), (42, .putfield 38, 3, 1, 10, 0), (45, .iload_n 2, 1, 0, 0, 0), (46, .ireturn, 1, 0, 0, 0)]
noncomputable def ij_t324 : List (Nat × ij_E) := [(0, .aload_n 0, 1, 0, 0, 0), (1, .getfield 56, 3, 1, 0, 0), (4, .iload_n 1, 1, 0, 0, 0), (5, .invokevirtual 134, 3, 182, 1, 14), (8, .istore_n 2, 1, 0, 0, 0), (9, .aload_n 0, 1, 0, 0, 0), (10, .dup, 1, 0, 0, 0), (11, .getfield 44, 3, 1, 12, 0), (14, .iload_n 2, 1, 0, 0, 0), (15, .ifCond .eq 7, 3, 0, 0, 0), (18, .iconst 1, 1, 0, 0, 0), (19, .goto 4, 3, 0, 0, 0), (22, .iconst 0, 1, 0, 0, 0), (23, .iadd, 1, 0, 0, 0), (24, .putfield 44, 3, 1, 12, 0), (27, .aload_n 0, 1, 0, 0, 0), (28, .dup, 1, 0, 0, 0), (29, .getfield 38, 3, 1, 10, 0), (32, .iload_n 2, 1, 0, 0, 0), (33, .ifCond .eq 7, 3, 0, 0, 0), (36, .iconst 0, 1, 0, 0, 0), (37, .goto 4, 3, 0, 0, 0), (40, .iconst 1, 1, 0, 0, 0), (41, .iadd, 1, 0, 0, 0), (42, .putfield 38, 3, 1, 10, 0), (45, .return_, 1, 0, 0, 0)]
noncomputable def ij_t325 : List (Nat × ij_E) := [(0, .aload_n 0, 1, 0, 0, 0), (1, .iload_n 1, 1, 0, 0, 0), (2, .invokevirtual 84, 3, 77, 1, 14), (5, .ifCond .eq 13, 3, 0, 0, 0), (8, .aload_n 0, 1, 0, 0, 0), (9, .getfield 9, 3, 4, 0, 0), (12, .iconst 5, 1, 0, 0, 0), (13, .iaload, 1, 0, 0, 0), (14, .iload_n 1, 1, 0, 0, 0), (15, .if_icmp .ne 5, 3, 0, 0, 0), (18, .iconst 0, 1, 0, 0, 0), (19, .ireturn, 1, 0, 0, 0), (20, .aload_n 0, 1, 0, 0, 0), (21, .getfield 9, 3, 4, 0, 0), (24, .iconst 5, 1, 0, 0, 0), (25, .iload_n 1, 1, 0, 0, 0), (26, .iastore, 1, 0, 0, 0), (27, .aload_n 0, 1, 0, 0, 0), (28, .aload_n 0, 1, 0, 0, 0), (29, .aload_n 0, 1, 0, 0, 0), (30, .getfield 9, 3, 4, 0, 0), (33, .iconst 2, 1, 0, 0, 0), (34, .iaload, 1, 0, 0, 0), (35, .iload_n 1, 1, 0, 0, 0), (36, .aload_n 0, 1, 0, 0, 0), (37, .getfield 9, 3, 4, 0, 0), (40, .iconst 3, 1, 0, 0, 0), (41, .iaload, 1, 0, 0, 0), (42, .invokevirtual 58, 3, 8, 3, 14), (45, .putfield 41, 3, 4, 4, 0), (48, .iconst 1, 1, 0, 0, 0), (49, .ireturn, 1, 0, 0, 0)]
noncomputable def ij_t326 : List (Nat × ij_E) := [(0, .aload_n 0, 1, 0, 0, 0), (1, .aload_n 0, 1, 0, 0, 0), (2, .getfield 9, 3, 1, 2, 0), (5, .sipush 3293, 3, 0, 0, 0), (8, .imul, 1, 0, 0, 0), (9, .sipush 11527, 3, 0, 0, 0), (12, .iadd, 1, 0, 0, 0), (13, .ldc 147, 2, 0, 65536, 0), (15, .irem, 1, 0, 0, 0), (16, .putfield 9, 3, 1, 2, 0), (19, .iload_n 1, 1, 0, 0, 0), (20, .ifCond .le 15, 3, 0, 0, 0), (23, .aload_n 0, 1, 0, 0, 0), (24, .getfield 9, 3, 1, 2, 0), (27, .bipush 8, 2, 0, 0, 0), (29, .idiv, 1, 0, 0, 0), (30, .iload_n 1, 1, 0, 0, 0), (31, .irem, 1, 0, 0, 0), (32, .goto 4, 3, 0, 0, 0), (35, .iconst 0, 1, 0, 0, 0), (36, .ireturn, 1, 0, 0, 0)]
noncomputable def ij_t327 : List (Nat × ij_E) := [(0, .aload_n 0, 1, 0, 0, 0), (1, .aload_n 0, 1, 0, 0, 0), (2, .getfield 56, 3, 1, 0, 0), (5, .invokevirtual 137, 3, 80, 0, 14), (8, .invokevirtual 140, 3, 326, 1, 11), (11, .istore_n 1, 1, 0, 0, 0), (12, .aload_n 0, 1, 0, 0, 0), (13, .bipush 16, 2, 0, 0, 0), (15, .invokevirtual 140, 3, 326, 1, 11), (18, .aload_n 0, 1, 0, 0, 0), (19, .getfield 56, 3, 1, 0, 0), (22, .iconst 0, 1, 0, 0, 0), (23, .invokevirtual 144, 3, 135, 1, 14), (26, .if_icmp .ge 11, 3, 0, 0, 0), (29, .aload_n 0, 1, 0, 0, 0), (30, .iload_n 1, 1, 0, 0, 0), (31, .invokevirtual 106, 3, 324, 1, 11), (34, .goto 9, 3, 0, 0, 0), (37, .aload_n 0, 1, 0, 0, 0), (38, .iload_n 1, 1, 0, 0, 0), (39, .invokevirtual 103, 3, 323, 1, 11), (42, .pop, 1, 0, 0, 0), (43, .return_, 1, 0, 0, 0)]
noncomputable def ij_t328 : List (Nat × ij_E) := [(0, .iload_n 1, 1, 0, 0, 0), (1, .ifCond .eq 51, 3, 0, 0, 0), (4, .aload_n 0, 1, 0, 0, 0), (5, .getfield 29, 3, 1, 7, 0), (8, .ifCond .lt 44, 3, 0, 0, 0), (11, .aload_n 0, 1, 0, 0, 0), (12, .getfield 29, 3, 1, 7, 0), (15, .iconst 3, 1, 0, 0, 0), (16, .if_icmp .ge 36, 3, 0, 0, 0), (19, .aload_n 0, 1, 0, 0, 0), (20, .getfield 22, 3, 1, 5, 0), (23, .aload_n 0, 1, 0, 0, 0), (24, .getfield 29, 3, 1, 7, 0), (27, .iload_n 2, 1, 0, 0, 0), (28, .iastore, 1, 0, 0, 0), (29, .aload_n 0, 1, 0, 0, 0), (30, .getfield 26, 3, 1, 6, 0), (33, .aload_n 0, 1, 0, 0, 0), (34, .getfield 29, 3, 1, 7, 0), (37, .iload_n 3, 1, 0, 0, 0), (38, .iastore, 1, 0, 0, 0), (39, .aload_n 0, 1, 0, 0, 0), (40, .dup, 1, 0, 0, 0), (41, .getfield 29, 3, 1, 7, 0), (44, .iconst 1, 1, 0, 0, 0), (45, .iadd, 1, 0, 0, 0), (46, .putfield 29, 3, 1, 7, 0), (49, .goto 16, 3, 0, 0, 0), (52, .aload_n 0, 1, 0, 0, 0), (53, .aload_n 0, 1, 0, 0, 0), (54, .getfield 60, 3, 1, 1, 0), (57, .getfield 91, 3, 6, 3, 0), (60, .iload_n 2, 1, 0, 0, 0), (61, .iaload, 1, 0, 0, 0), (62, .putfield 15, 3, 1, 3, 0), (65, .return_, 1, 0, 0, 0)]
noncomputable def ij_t329 : List (Nat × ij_E) := [(0, .iload_n 1, 1, 0, 0, 0), (1, .tableswitch 86 0 3 #[31, 43, 52, 69], 31, 0, 0, 0), (32, .aload_n 0, 1, 0, 0, 0), (33, .getfield 56, 3, 1, 0, 0), (36, .getfield 148, 3, 4, 3, 0), (39, .iload_n 2, 1, 0, 0, 0), (40, .invokestatic 152, 3, 74, 2, 1), (43, .ireturn, 1, 0, 0, 0), (44, .aload_n 0, 1, 0, 0, 0), (45, .getfield 56, 3, 1, 0, 0), (48, .iload_n 2, 1, 0, 0, 0), (49, .invokevirtual 158, 3, 155, 1, 14), (52, .ireturn, 1, 0, 0, 0), (53, .aload_n 0, 1, 0, 0, 0), (54, .getfield 56, 3, 1, 0, 0), (57, .invokevirtual 161, 3, 189, 0, 14), (60, .iload_n 2, 1, 0, 0, 0), (61, .if_icmp .ge 7, 3, 0, 0, 0), (64, .iconst 1, 1, 0, 0, 0), (65, .goto 4, 3, 0, 0, 0), (68, .iconst 0, 1, 0, 0, 0), (69, .ireturn, 1, 0, 0, 0), (70, .aload_n 0, 1, 0, 0, 0), (71, .getfield 56, 3, 1, 0, 0), (74, .invokevirtual 161, 3, 189, 0, 14), (77, .iload_n 2, 1, 0, 0, 0), (78, .if_icmp .le 7, 3, 0, 0, 0), (81, .iconst 1, 1, 0, 0, 0), (82, .goto 4, 3, 0, 0, 0), (85, .iconst 0, 1, 0, 0, 0), (86, .ireturn, 1, 0, 0, 0), (87, .aload_n 0, 1, 0, 0, 0), (88, .getfield 56, 3, 1, 0, 0), (91, .invokevirtual 161, 3, 189, 0, 14), (94, .iload_n 2, 1, 0, 0, 0), (95, .if_icmp .ne 7, 3, 0, 0, 0), (98, .iconst 1, 1, 0, 0, 0), (99, .goto 4, 3, 0, 0, 0), (102, .iconst 0, 1, 0, 0, 0), (103, .ireturn, 1, 0, 0, 0)]
noncomputable def ij_t330 : List (Nat × ij_E) := [(0, .aload_n 0, 1, 0, 0, 0), (1, .getfield 29, 3, 1, 7, 0), (4, .istore_n 1, 1, 0, 0, 0), (5, .iload_n 1, 1, 0, 0, 0), (6, .ifCond .le 62, 3, 0, 0, 0), (9, .aload_n 0, 1, 0, 0, 0), (10, .invokevirtual 81, 3, 318, 0, 11), (13, .istore_n 2, 1, 0, 0, 0), (14, .aload_n 0, 1, 0, 0, 0), (15, .getfield 60, 3, 1, 1, 0), (18, .iload_n 2, 1, 0, 0, 0), (19, .invokevirtual 85, 3, 118, 1, 16), (22, .ifCond .eq 30, 3, 0, 0, 0), (25, .aload_n 0, 1, 0, 0, 0), (26, .getfield 60, 3, 1, 1, 0), (29, .getfield 94, 3, 6, 0, 0), (32, .iload_n 2, 1, 0, 0, 0), (33, .iaload, 1, 0, 0, 0), (34, .iconst 4, 1, 0, 0, 0), (35, .if_icmp .ne 17, 3, 0, 0, 0), (38, .aload_n 0, 1, 0, 0, 0), (39, .aload_n 0, 1, 0, 0, 0), (40, .getfield 60, 3, 1, 1, 0), (43, .getfield 91, 3, 6, 3, 0), (46, .iload_n 2, 1, 0, 0, 0), (47, .iaload, 1, 0, 0, 0), (48, .putfield 15, 3, 1, 3, 0), (51, .return_, 1, 0, 0, 0), (52, .aload_n 0, 1, 0, 0, 0), (53, .dup, 1, 0, 0, 0), (54, .getfield 29, 3, 1, 7, 0), (57, .iconst 1, 1, 0, 0, 0), (58, .isub, 1, 0, 0, 0), (59, .putfield 29, 3, 1, 7, 0), (62, .iinc 1 (-1), 3, 0, 0, 0), (65, .goto (-60), 3, 0, 0, 0), (68, .aload_n 0, 1, 0, 0, 0), (69, .iconst 1, 1, 0, 0, 0), (70, .putfield 18, 3, 1, 4, 0), (73, .return_, 1, 0, 0, 0)]
noncomputable def ij_t331 : List (Nat × ij_E) := [(0, .aload_n 0, 1, 0, 0, 0), (1, .getfield 60, 3, 1, 1, 0), (4, .getfield 97, 3, 6, 2, 0), (7, .iload_n 1, 1, 0, 0, 0), (8, .iaload, 1, 0, 0, 0), (9, .istore_n 2, 1, 0, 0, 0), (10, .aload_n 0, 1, 0, 0, 0), (11, .iload_n 1, 1, 0, 0, 0), (12, .iconst 1, 1, 0, 0, 0), (13, .iadd, 1, 0, 0, 0), (14, .putfield 15, 3, 1, 3, 0), (17, .aload_n 0, 1, 0, 0, 0), (18, .getfield 60, 3, 1, 1, 0), (21, .getfield 94, 3, 6, 0, 0), (24, .iload_n 1, 1, 0, 0, 0), (25, .iaload, 1, 0, 0, 0), (26, .tableswitch 187 0 7 #[46, 55, 63, 91, 98, 112, 151, 180], 46, 0, 0, 0), (72, .aload_n 0, 1, 0, 0, 0), (73, .iload_n 2, 1, 0, 0, 0), (74, .invokevirtual 103, 3, 323, 1, 11), (77, .pop, 1, 0, 0, 0), (78, .goto 140, 3, 0, 0, 0), (81, .aload_n 0, 1, 0, 0, 0), (82, .iload_n 2, 1, 0, 0, 0), (83, .invokevirtual 106, 3, 324, 1, 11), (86, .goto 132, 3, 0, 0, 0), (89, .aload_n 0, 1, 0, 0, 0), (90, .dup, 1, 0, 0, 0), (91, .getfield 38, 3, 1, 10, 0), (94, .aload_n 0, 1, 0, 0, 0), (95, .getfield 56, 3, 1, 0, 0), (98, .iload_n 2, 1, 0, 0, 0), (99, .invokevirtual 109, 3, 325, 1, 14), (102, .ifCond .eq 7, 3, 0, 0, 0), (105, .iconst 0, 1, 0, 0, 0), (106, .goto 4, 3, 0, 0, 0), (109, .iconst 1, 1, 0, 0, 0), (110, .iadd, 1, 0, 0, 0), (111, .putfield 38, 3, 1, 10, 0), (114, .goto 104, 3, 0, 0, 0), (117, .aload_n 0, 1, 0, 0, 0), (118, .invokevirtual 114, 3, 327, 0, 11), (121, .goto 97, 3, 0, 0, 0), (124, .aload_n 0, 1, 0, 0, 0), (125, .aload_n 0, 1, 0, 0, 0), (126, .iload_n 2, 1, 0, 0, 0), (127, .invokevirtual 103, 3, 323, 1, 11), (130, .iload_n 1, 1, 0, 0, 0), (131, .iconst 1, 1, 0, 0, 0), (132, .invokevirtual 117, 3, 328, 3, 11), (135, .goto 83, 3, 0, 0, 0), (138, .aload_n 0, 1, 0, 0, 0), (139, .aload_n 0, 1, 0, 0, 0), (140, .aload_n 0, 1, 0, 0, 0), (141, .getfield 60, 3, 1, 1, 0), (144, .getfield 121, 3, 6, 1, 0), (147, .iload_n 1, 1, 0, 0, 0), (148, .iaload, 1, 0, 0, 0), (149, .iload_n 2, 1, 0, 0, 0), (150, .invokevirtual 124, 3, 329, 2, 11), (153, .ifCond .eq 9, 3, 0, 0, 0), (156, .iload_n 1, 1, 0, 0, 0), (157, .iconst 1, 1, 0, 0, 0), (158, .iadd, 1, 0, 0, 0), (159, .goto 12, 3, 0, 0, 0), (162, .aload_n 0, 1, 0, 0, 0), (163, .getfield 60, 3, 1, 1, 0), (166, .getfield 91, 3, 6, 3, 0), (169, .iload_n 1, 1, 0, 0, 0), (170, .iaload, 1, 0, 0, 0), (171, .putfield 15, 3, 1, 3, 0), (174, .goto 44, 3, 0, 0, 0), (177, .aload_n 0, 1, 0, 0, 0), (178, .aload_n 0, 1, 0, 0, 0), (179, .getfield 60, 3, 1, 1, 0), (182, .getfield 91, 3, 6, 3, 0), (185, .iload_n 1, 1, 0, 0, 0), (186, .iaload, 1, 0, 0, 0), (187, .iload_n 1, 1, 0, 0, 0), (188, .iconst 1, 1, 0, 0, 0), (189, .iadd, 1, 0, 0, 0), (190, .if_icmp .le 7, 3, 0, 0, 0), (193, .iconst 1, 1, 0, 0, 0), (194, .goto 4, 3, 0, 0, 0), (197, .iconst 0, 1, 0, 0, 0), (198, .iload_n 1, 1, 0, 0, 0), (199, .iload_n 2, 1, 0, 0, 0), (200, .invokevirtual 117, 3, 328, 3, 11), (203, .goto 15, 3, 0, 0, 0), (206, .aload_n 0, 1, 0, 0, 0), (207, .invokevirtual 128, 3, 330, 0, 11), (210, .goto 8, 3, 0, 0, 0), (213, .aload_n 0, 1, 0, 0, 0), (214, .iconst 1, 1, 0, 0, 0), (215, .putfield 18, 3, 1, 4, 0), (218, .return_, 1, 0, 0, 0)]
noncomputable def ij_t332 : List (Nat × ij_E) := [(0, .aload_n 0, 1, 0, 0, 0), (1, .getfield 29, 3, 1, 7, 0), (4, .istore_n 1, 1, 0, 0, 0), (5, .iload_n 1, 1, 0, 0, 0), (6, .ifCond .le 61, 3, 0, 0, 0), (9, .aload_n 0, 1, 0, 0, 0), (10, .invokevirtual 81, 3, 318, 0, 11), (13, .istore_n 2, 1, 0, 0, 0), (14, .aload_n 0, 1, 0, 0, 0), (15, .getfield 60, 3, 1, 1, 0), (18, .iload_n 2, 1, 0, 0, 0), (19, .invokevirtual 85, 3, 118, 1, 16), (22, .ifCond .eq 29, 3, 0, 0, 0), (25, .aload_n 0, 1, 0, 0, 0), (26, .getfield 60, 3, 1, 1, 0), (29, .getfield 94, 3, 6, 0, 0), (32, .iload_n 2, 1, 0, 0, 0), (33, .iaload, 1, 0, 0, 0), (34, .iconst 4, 1, 0, 0, 0), (35, .if_icmp .ne 16, 3, 0, 0, 0), (38, .aload_n 0, 1, 0, 0, 0), (39, .aload_n 0, 1, 0, 0, 0), (40, .getfield 60, 3, 1, 1, 0), (43, .getfield 97, 3, 6, 2, 0), (46, .iload_n 2, 1, 0, 0, 0), (47, .iaload, 1, 0, 0, 0), (48, .invokevirtual 100, 3, 320, 1, 11), (51, .aload_n 0, 1, 0, 0, 0), (52, .dup, 1, 0, 0, 0), (53, .getfield 29, 3, 1, 7, 0), (56, .iconst 1, 1, 0, 0, 0), (57, .isub, 1, 0, 0, 0), (58, .putfield 29, 3, 1, 7, 0), (61, .iinc 1 (-1), 3, 0, 0, 0), (64, .goto (-59), 3, 0, 0, 0), (67, .return_, 1, 0, 0, 0)]
noncomputable def ij_t333 : List (Nat × ij_E) := [(0, .aload_n 0, 1, 0, 0, 0), (1, .iload_n 1, 1, 0, 0, 0), (2, .putfield 9, 3, 1, 2, 0), (5, .aload_n 0, 1, 0, 0, 0), (6, .iconst 0, 1, 0, 0, 0), (7, .putfield 15, 3, 1, 3, 0), (10, .aload_n 0, 1, 0, 0, 0), (11, .iconst 0, 1, 0, 0, 0), (12, .putfield 18, 3, 1, 4, 0), (15, .aload_n 0, 1, 0, 0, 0), (16, .iconst 0, 1, 0, 0, 0), (17, .putfield 29, 3, 1, 7, 0), (20, .aload_n 0, 1, 0, 0, 0), (21, .iconst 1, 1, 0, 0, 0), (22, .putfield 32, 3, 1, 8, 0), (25, .aload_n 0, 1, 0, 0, 0), (26, .iconst 0, 1, 0, 0, 0), (27, .putfield 35, 3, 1, 9, 0), (30, .aload_n 0, 1, 0, 0, 0), (31, .iconst 0, 1, 0, 0, 0), (32, .putfield 38, 3, 1, 10, 0), (35, .aload_n 0, 1, 0, 0, 0), (36, .iconst 0, 1, 0, 0, 0), (37, .putfield 41, 3, 1, 11, 0), (40, .aload_n 0, 1, 0, 0, 0), (41, .iconst 0, 1, 0, 0, 0), (42, .putfield 44, 3, 1, 12, 0), (45, .aload_n 0, 1, 0, 0, 0), (46, .iconst 0, 1, 0, 0, 0), (47, .putfield 47, 3, 1, 13, 0), (50, .aload_n 0, 1, 0, 0, 0), (51, .iconst 0, 1, 0, 0, 0), (52, .putfield 50, 3, 1, 14, 0), (55, .iconst 0, 1, 0, 0, 0), (56, .istore_n 2, 1, 0, 0, 0), (57, .iload_n 2, 1, 0, 0, 0), (58, .sipush 10000, 3, 0, 0, 0), (61, .if_icmp .ge 45, 3, 0, 0, 0), (64, .aload_n 0, 1, 0, 0, 0), (65, .getfield 18, 3, 1, 4, 0), (68, .ifCond .ne 38, 3, 0, 0, 0), (71, .aload_n 0, 1, 0, 0, 0), (72, .invokevirtual 64, 3, 319, 0, 11), (75, .ifCond .eq 10, 3, 0, 0, 0), (78, .aload_n 0, 1, 0, 0, 0), (79, .invokevirtual 68, 3, 321, 0, 11), (82, .goto 18, 3, 0, 0, 0), (85, .aload_n 0, 1, 0, 0, 0), (86, .invokevirtual 71, 3, 322, 0, 11), (89, .ifCond .eq 11, 3, 0, 0, 0), (92, .aload_n 0, 1, 0, 0, 0), (93, .aload_n 0, 1, 0, 0, 0), (94, .getfield 15, 3, 1, 3, 0), (97, .invokevirtual 74, 3, 331, 1, 11), (100, .iinc 2 1, 3, 0, 0, 0), (103, .goto (-46), 3, 0, 0, 0), (106, .aload_n 0, 1, 0, 0, 0), (107, .invokevirtual 78, 3, 332, 0, 11), (110, .return_, 1, 0, 0, 0)]
noncomputable def ij_t334 : List (Nat × ij_E) := [(0, .iload_n 1, 1, 0, 0, 0), (1, .ifCond .lt 10, 3, 0, 0, 0), (4, .iload_n 1, 1, 0, 0, 0), (5, .sipush 9999, 3, 0, 0, 0), (8, .if_icmp .le 9, 3, 0, 0, 0), (11, .aload_n 0, 1, 0, 0, 0), (12, .iconst 1, 1, 0, 0, 0), (13, .invokevirtual 139, 3, 44, 1, 20), (16, .ireturn, 1, 0, 0, 0), (17, .aload_n 0, 1, 0, 0, 0), (18, .getfield 60, 3, 10, 8, 0), (21, .getfield 183, 3, 6, 5, 0), (24, .ifCond .ne 10, 3, 0, 0, 0), (27, .aload_n 0, 1, 0, 0, 0), (28, .bipush 6, 2, 0, 0, 0), (30, .invokevirtual 139, 3, 44, 1, 20), (33, .ireturn, 1, 0, 0, 0), (34, .aload_n 0, 1, 0, 0, 0), (35, .getfield 94, 3, 10, 13, 0), (38, .iload_n 1, 1, 0, 0, 0), (39, .invokevirtual 374, 3, 333, 1, 11), (42, .aload_n 0, 1, 0, 0, 0), (43, .aload_n 0, 1, 0, 0, 0), (44, .getfield 94, 3, 10, 13, 0), (47, .getfield 377, 3, 1, 9, 0), (50, .invokevirtual 191, 3, 90, 1, 20), (53, .ireturn, 1, 0, 0, 0)]
noncomputable def ij_t335 : List (Nat × ij_E) := [(0, .iload_n 2, 1, 0, 0, 0), (1, .ifCond .eq 13, 3, 0, 0, 0), (4, .aload_n 0, 1, 0, 0, 0), (5, .getfield 93, 3, 11, 49, 0), (8, .iload_n 1, 1, 0, 0, 0), (9, .dup2, 1, 0, 0, 0), (10, .iaload, 1, 0, 0, 0), (11, .iconst 1, 1, 0, 0, 0), (12, .iadd, 1, 0, 0, 0), (13, .iastore, 1, 0, 0, 0), (14, .iload_n 2, 1, 0, 0, 0), (15, .ireturn, 1, 0, 0, 0)]
noncomputable def ij_t336 : List (Nat × ij_E) := [(0, .aload_n 0, 1, 0, 0, 0), (1, .iload_n 1, 1, 0, 0, 0), (2, .invokevirtual 296, 3, 158, 1, 21), (5, .ifCond .eq 13, 3, 0, 0, 0), (8, .aload_n 0, 1, 0, 0, 0), (9, .getfield 7, 3, 11, 0, 0), (12, .iconst 5, 1, 0, 0, 0), (13, .iaload, 1, 0, 0, 0), (14, .iload_n 1, 1, 0, 0, 0), (15, .if_icmp .ne 5, 3, 0, 0, 0), (18, .iconst 0, 1, 0, 0, 0), (19, .ireturn, 1, 0, 0, 0), (20, .aload_n 0, 1, 0, 0, 0), (21, .getfield 7, 3, 11, 0, 0), (24, .iconst 5, 1, 0, 0, 0), (25, .iload_n 1, 1, 0, 0, 0), (26, .iastore, 1, 0, 0, 0), (27, .iconst 1, 1, 0, 0, 0), (28, .ireturn, 1, 0, 0, 0)]
noncomputable def ij_t337 : List (Nat × ij_E) := [(0, .aload_n 0, 1, 0, 0, 0), (1, .iconst 1, 1, 0, 0, 0), (2, .aload_n 0, 1, 0, 0, 0), (3, .iload_n 1, 1, 0, 0, 0), (4, .invokevirtual 313, 3, 180, 1, 21), (7, .invokevirtual 418, 3, 335, 2, 21), (10, .ifCond .ne 5, 3, 0, 0, 0), (13, .iconst 0, 1, 0, 0, 0), (14, .ireturn, 1, 0, 0, 0), (15, .aload_n 0, 1, 0, 0, 0), (16, .getfield 99, 3, 11, 51, 0), (19, .aload_n 0, 1, 0, 0, 0), (20, .getfield 422, 3, 11, 45, 0), (23, .iload_n 1, 1, 0, 0, 0), (24, .iastore, 1, 0, 0, 0), (25, .aload_n 0, 1, 0, 0, 0), (26, .dup, 1, 0, 0, 0), (27, .getfield 422, 3, 11, 45, 0), (30, .iconst 1, 1, 0, 0, 0), (31, .iadd, 1, 0, 0, 0), (32, .putfield 422, 3, 11, 45, 0), (35, .iconst 1, 1, 0, 0, 0), (36, .ireturn, 1, 0, 0, 0)]
noncomputable def ij_t338 : List (Nat × ij_E) := [(0, .aload_n 0, 1, 0, 0, 0), (1, .aload_n 0, 1, 0, 0, 0), (2, .getfield 414, 3, 11, 43, 0), (5, .sipush 3293, 3, 0, 0, 0), (8, .imul, 1, 0, 0, 0), (9, .sipush 11527, 3, 0, 0, 0), (12, .iadd, 1, 0, 0, 0), (13, .ldc_w 417, 3, 0, 65536, 0), (16, .irem, 1, 0, 0, 0), (17, .putfield 414, 3, 11, 43, 0), (20, .aload_n 0, 1, 0, 0, 0), (21, .getfield 414, 3, 11, 43, 0), (24, .bipush 8, 2, 0, 0, 0), (26, .idiv, 1, 0, 0, 0), (27, .iload_n 1, 1, 0, 0, 0), (28, .irem, 1, 0, 0, 0), (29, .ireturn, 1, 0, 0, 0)]
noncomputable def ij_t339 : List (Nat × ij_E) := [(0, .aload_n 0, 1, 0, 0, 0), (1, .aload_n 0, 1, 0, 0, 0), (2, .getfield 7, 3, 11, 0, 0), (5, .iconst 1, 1, 0, 0, 0), (6, .iaload, 1, 0, 0, 0), (7, .invokevirtual 428, 3, 338, 1, 21), (10, .istore_n 1, 1, 0, 0, 0), (11, .aload_n 0, 1, 0, 0, 0), (12, .bipush 16, 2, 0, 0, 0), (14, .invokevirtual 428, 3, 338, 1, 21), (17, .aload_n 0, 1, 0, 0, 0), (18, .getfield 7, 3, 11, 0, 0), (21, .iconst 0, 1, 0, 0, 0), (22, .iaload, 1, 0, 0, 0), (23, .if_icmp .ge 16, 3, 0, 0, 0), (26, .aload_n 0, 1, 0, 0, 0), (27, .iconst 2, 1, 0, 0, 0), (28, .aload_n 0, 1, 0, 0, 0), (29, .iload_n 1, 1, 0, 0, 0), (30, .invokevirtual 316, 3, 184, 1, 21), (33, .invokevirtual 418, 3, 335, 2, 21), (36, .goto 13, 3, 0, 0, 0), (39, .aload_n 0, 1, 0, 0, 0), (40, .iconst 1, 1, 0, 0, 0), (41, .aload_n 0, 1, 0, 0, 0), (42, .iload_n 1, 1, 0, 0, 0), (43, .invokevirtual 313, 3, 180, 1, 21), (46, .invokevirtual 418, 3, 335, 2, 21), (49, .ireturn, 1, 0, 0, 0)]
noncomputable def ij_t340 : List (Nat × ij_E) := [(0, .aload_n 0, 1, 0, 0, 0), (1, .getfield 7, 3, 11, 0, 0), (4, .iload_n 1, 1, 0, 0, 0), (5, .iconst 1, 1, 0, 0, 0), (6, .iadd, 1, 0, 0, 0), (7, .iaload, 1, 0, 0, 0), (8, .istore_n 2, 1, 0, 0, 0), (9, .aload_n 0, 1, 0, 0, 0), (10, .getfield 7, 3, 11, 0, 0), (13, .iload_n 1, 1, 0, 0, 0), (14, .iaload, 1, 0, 0, 0), (15, .tableswitch 92 5 14 #[75, 92, 92, 92, 92, 53, 64, 81, 92, 87], 53, 0, 0, 0), (68, .aload_n 0, 1, 0, 0, 0), (69, .iconst 1, 1, 0, 0, 0), (70, .aload_n 0, 1, 0, 0, 0), (71, .iload_n 2, 1, 0, 0, 0), (72, .invokevirtual 313, 3, 180, 1, 21), (75, .invokevirtual 418, 3, 335, 2, 21), (78, .ireturn, 1, 0, 0, 0), (79, .aload_n 0, 1, 0, 0, 0), (80, .iconst 2, 1, 0, 0, 0), (81, .aload_n 0, 1, 0, 0, 0), (82, .iload_n 2, 1, 0, 0, 0), (83, .invokevirtual 316, 3, 184, 1, 21), (86, .invokevirtual 418, 3, 335, 2, 21), (89, .ireturn, 1, 0, 0, 0), (90, .aload_n 0, 1, 0, 0, 0), (91, .iload_n 2, 1, 0, 0, 0), (92, .invokevirtual 431, 3, 336, 1, 21), (95, .ireturn, 1, 0, 0, 0), (96, .aload_n 0, 1, 0, 0, 0), (97, .iload_n 2, 1, 0, 0, 0), (98, .invokevirtual 434, 3, 337, 1, 21), (101, .ireturn, 1, 0, 0, 0), (102, .aload_n 0, 1, 0, 0, 0), (103, .invokevirtual 437, 3, 339, 0, 21), (106, .ireturn, 1, 0, 0, 0), (107, .iconst 1, 1, 0, 0, 0), (108, .ireturn, 1, 0, 0, 0)]
noncomputable def ij_t341 : List (Nat × ij_E) := [(0, .aload_n 0, 1, 0, 0, 0), (1, .dup, 1, 0, 0, 0), (2, .getfield 422, 3, 11, 45, 0), (5, .iconst 1, 1, 0, 0, 0), (6, .isub, 1, 0, 0, 0), (7, .putfield 422, 3, 11, 45, 0), (10, .aload_n 0, 1, 0, 0, 0), (11, .getfield 99, 3, 11, 51, 0), (14, .aload_n 0, 1, 0, 0, 0), (15, .getfield 422, 3, 11, 45, 0), (18, .iaload, 1, 0, 0, 0), (19, .istore_n 1, 1, 0, 0, 0), (20, .aload_n 0, 1, 0, 0, 0), (21, .iload_n 1, 1, 0, 0, 0), (22, .invokevirtual 316, 3, 184, 1, 21), (25, .pop, 1, 0, 0, 0), (26, .aload_n 0, 1, 0, 0, 0), (27, .getfield 93, 3, 11, 49, 0), (30, .iconst 3, 1, 0, 0, 0), (31, .dup2, 1, 0, 0, 0), (32, .iaload, 1, 0, 0, 0), (33, .iconst 1, 1, 0, 0, 0), (34, .iadd, 1, 0, 0, 0), (35, .iastore, 1, 0, 0, 0), (36, .aload_n 0, 1, 0, 0, 0), (37, .getfield 425, 3, 11, 46, 0), (40, .bipush 60, 2, 0, 0, 0), (42, .if_icmp .ne 4, 3, 0, 0, 0), (45, .return_, 1, 0, 0, 0), (46, .aload_n 0, 1, 0, 0, 0), (47, .getfield 102, 3, 11, 52, 0), (50, .aload_n 0, 1, 0, 0, 0), (51, .getfield 425, 3, 11, 46, 0), (54, .iload_n 1, 1, 0, 0, 0), (55, .iastore, 1, 0, 0, 0), (56, .aload_n 0, 1, 0, 0, 0), (57, .dup, 1, 0, 0, 0), (58, .getfield 425, 3, 11, 46, 0), (61, .iconst 1, 1, 0, 0, 0), (62, .iadd, 1, 0, 0, 0), (63, .putfield 425, 3, 11, 46, 0), (66, .return_, 1, 0, 0, 0)]
noncomputable def ij_t342 : List (Nat × ij_E) := [(0, .iload_n 1, 1, 0, 0, 0), (1, .istore_n 2, 1, 0, 0, 0), (2, .iload_n 2, 1, 0, 0, 0), (3, .aload_n 0, 1, 0, 0, 0), (4, .getfield 7, 3, 11, 0, 0), (7, .bipush 10, 2, 0, 0, 0), (9, .iaload, 1, 0, 0, 0), (10, .if_icmp .ge 126, 3, 0, 0, 0), (13, .aload_n 0, 1, 0, 0, 0), (14, .getfield 7, 3, 11, 0, 0), (17, .bipush 92, 2, 0, 0, 0), (19, .bipush 6, 2, 0, 0, 0), (21, .iload_n 2, 1, 0, 0, 0), (22, .imul, 1, 0, 0, 0), (23, .iadd, 1, 0, 0, 0), (24, .iaload, 1, 0, 0, 0), (25, .bipush 17, 2, 0, 0, 0), (27, .if_icmp .ne 109, 3, 0, 0, 0), (30, .aload_n 0, 1, 0, 0, 0), (31, .getfield 7, 3, 11, 0, 0), (34, .bipush 92, 2, 0, 0, 0), (36, .bipush 6, 2, 0, 0, 0), (38, .iload_n 2, 1, 0, 0, 0), (39, .imul, 1, 0, 0, 0), (40, .iadd, 1, 0, 0, 0), (41, .iconst 4, 1, 0, 0, 0), (42, .iadd, 1, 0, 0, 0), (43, .iaload, 1, 0, 0, 0), (44, .istore_n 3, 1, 0, 0, 0), (45, .aload_n 0, 1, 0, 0, 0), (46, .getfield 7, 3, 11, 0, 0), (49, .bipush 92, 2, 0, 0, 0), (51, .bipush 6, 2, 0, 0, 0), (53, .iload_n 3, 1, 0, 0, 0), (54, .imul, 1, 0, 0, 0), (55, .iadd, 1, 0, 0, 0), (56, .iaload, 1, 0, 0, 0), (57, .bipush 16, 2, 0, 0, 0), (59, .if_icmp .ne 16, 3, 0, 0, 0), (62, .aload_n 0, 1, 0, 0, 0), (63, .getfield 90, 3, 11, 48, 0), (66, .iload_n 3, 1, 0, 0, 0), (67, .iaload, 1, 0, 0, 0), (68, .ifCond .le 7, 3, 0, 0, 0), (71, .iconst 1, 1, 0, 0, 0), (72, .goto 4, 3, 0, 0, 0), (75, .iconst 0, 1, 0, 0, 0), (76, .istore 4, 2, 0, 0, 0), (78, .aload_n 0, 1, 0, 0, 0), (79, .getfield 90, 3, 11, 48, 0), (82, .iload_n 3, 1, 0, 0, 0), (83, .dup2, 1, 0, 0, 0), (84, .iaload, 1, 0, 0, 0), (85, .iload 4, 2, 0, 0, 0), (87, .ifCond .eq 7, 3, 0, 0, 0), (90, .iconst 1, 1, 0, 0, 0), (91, .goto 4, 3, 0, 0, 0), (94, .iconst 0, 1, 0, 0, 0), (95, .isub, 1, 0, 0, 0), (96, .iastore, 1, 0, 0, 0), (97, .aload_n 0, 1, 0, 0, 0), (98, .getfield 7, 3, 11, 0, 0), (101, .bipush 92, 2, 0, 0, 0), (103, .bipush 6, 2, 0, 0, 0), (105, .iload_n 3, 1, 0, 0, 0), (106, .imul, 1, 0, 0, 0), (107, .iadd, 1, 0, 0, 0), (108, .iaload, 1, 0, 0, 0), (109, .bipush 12, 2, 0, 0, 0), (111, .if_icmp .ne 7, 3, 0, 0, 0), (114, .aload_n 0, 1, 0, 0, 0), (115, .invokevirtual 440, 3, 341, 0, 21), (118, .iload 4, 2, 0, 0, 0), (120, .ifCond .eq 9, 3, 0, 0, 0), (123, .iload_n 3, 1, 0, 0, 0), (124, .iconst 1, 1, 0, 0, 0), (125, .iadd, 1, 0, 0, 0), (126, .goto 6, 3, 0, 0, 0), (129, .iload_n 2, 1, 0, 0, 0), (130, .iconst 1, 1, 0, 0, 0), (131, .iadd, 1, 0, 0, 0), (132, .istore_n 2, 1, 0, 0, 0), (133, .goto (-131), 3, 0, 0, 0), (136, .iload_n 2, 1, 0, 0, 0), (137, .ireturn, 1, 0, 0, 0)]
noncomputable def ij_t343 : List (Nat × ij_E) := [(0, .aload_n 0, 1, 0, 0, 0), (1, .getfield 7, 3, 11, 0, 0), (4, .iload_n 1, 1, 0, 0, 0), (5, .iaload, 1, 0, 0, 0), (6, .sipush 1500, 3, 0, 0, 0), (9, .isub, 1, 0, 0, 0), (10, .istore_n 2, 1, 0, 0, 0), (11, .aload_n 0, 1, 0, 0, 0), (12, .getfield 7, 3, 11, 0, 0), (15, .iload_n 1, 1, 0, 0, 0), (16, .iconst 1, 1, 0, 0, 0), (17, .iadd, 1, 0, 0, 0), (18, .iaload, 1, 0, 0, 0), (19, .istore_n 3, 1, 0, 0, 0), (20, .iload_n 2, 1, 0, 0, 0), (21, .bipush 9, 2, 0, 0, 0), (23, .if_icmp .ne 26, 3, 0, 0, 0), (26, .aload_n 0, 1, 0, 0, 0), (27, .iload_n 3, 1, 0, 0, 0), (28, .invokevirtual 296, 3, 158, 1, 21), (31, .ifCond .eq 16, 3, 0, 0, 0), (34, .aload_n 0, 1, 0, 0, 0), (35, .iload_n 3, 1, 0, 0, 0), (36, .invokevirtual 279, 3, 143, 1, 21), (39, .iconst 1, 1, 0, 0, 0), (40, .if_icmp .ne 7, 3, 0, 0, 0), (43, .iconst 1, 1, 0, 0, 0), (44, .goto 4, 3, 0, 0, 0), (47, .iconst 0, 1, 0, 0, 0), (48, .ireturn, 1, 0, 0, 0), (49, .iload_n 2, 1, 0, 0, 0), (50, .bipush 19, 2, 0, 0, 0), (52, .if_icmp .ne 31, 3, 0, 0, 0), (55, .aload_n 0, 1, 0, 0, 0), (56, .invokevirtual 242, 3, 114, 0, 21), (59, .aload_n 0, 1, 0, 0, 0), (60, .iload_n 3, 1, 0, 0, 0), (61, .invokevirtual 296, 3, 158, 1, 21), (64, .ifCond .eq 17, 3, 0, 0, 0), (67, .aload_n 0, 1, 0, 0, 0), (68, .getfield 50, 3, 11, 24, 0), (71, .iload_n 3, 1, 0, 0, 0), (72, .iaload, 1, 0, 0, 0), (73, .iconst (-1), 1, 0, 0, 0), (74, .if_icmp .eq 7, 3, 0, 0, 0), (77, .iconst 1, 1, 0, 0, 0), (78, .goto 4, 3, 0, 0, 0), (81, .iconst 0, 1, 0, 0, 0), (82, .ireturn, 1, 0, 0, 0), (83, .aload_n 0, 1, 0, 0, 0), (84, .invokevirtual 324, 3, 194, 0, 21), (87, .istore 4, 2, 0, 0, 0), (89, .aload_n 0, 1, 0, 0, 0), (90, .getfield 7, 3, 11, 0, 0), (93, .iload_n 1, 1, 0, 0, 0), (94, .iconst 5, 1, 0, 0, 0), (95, .iadd, 1, 0, 0, 0), (96, .iaload, 1, 0, 0, 0), (97, .bipush 60, 2, 0, 0, 0), (99, .if_icmp .ne 24, 3, 0, 0, 0), (102, .iload 4, 2, 0, 0, 0), (104, .aload_n 0, 1, 0, 0, 0), (105, .getfield 7, 3, 11, 0, 0), (108, .iload_n 1, 1, 0, 0, 0), (109, .iconst 2, 1, 0, 0, 0), (110, .iadd, 1, 0, 0, 0), (111, .iaload, 1, 0, 0, 0), (112, .if_icmp .ge 7, 3, 0, 0, 0), (115, .iconst 1, 1, 0, 0, 0), (116, .goto 59, 3, 0, 0, 0), (119, .iconst 0, 1, 0, 0, 0), (120, .goto 55, 3, 0, 0, 0), (123, .aload_n 0, 1, 0, 0, 0), (124, .getfield 7, 3, 11, 0, 0), (127, .iload_n 1, 1, 0, 0, 0), (128, .iconst 5, 1, 0, 0, 0), (129, .iadd, 1, 0, 0, 0), (130, .iaload, 1, 0, 0, 0), (131, .bipush 62, 2, 0, 0, 0), (133, .if_icmp .ne 24, 3, 0, 0, 0), (136, .iload 4, 2, 0, 0, 0), (138, .aload_n 0, 1, 0, 0, 0), (139, .getfield 7, 3, 11, 0, 0), (142, .iload_n 1, 1, 0, 0, 0), (143, .iconst 2, 1, 0, 0, 0), (144, .iadd, 1, 0, 0, 0), (145, .iaload, 1, 0, 0, 0), (146, .if_icmp .le 7, 3, 0, 0, 0), (149, .iconst 1, 1, 0, 0, 0), (150, .goto 25, 3, 0, 0, 0), (153, .iconst 0, 1, 0, 0, 0), (154, .goto 21, 3, 0, 0, 0), (157, .iload 4, 2, 0, 0, 0), (159, .aload_n 0, 1, 0, 0, 0), (160, .getfield 7, 3, 11, 0, 0), (163, .iload_n 1, 1, 0, 0, 0), (164, .iconst 2, 1, 0, 0, 0), (165, .iadd, 1, 0, 0, 0), (166, .iaload, 1, 0, 0, 0), (167, .if_icmp .ne 7, 3, 0, 0, 0), (170, .iconst 1, 1, 0, 0, 0), (171, .goto 4, 3, 0, 0, 0), (174, .iconst 0, 1, 0, 0, 0), (175, .ireturn, 1, 0, 0, 0)]
noncomputable def ij_t344 : List (Nat × ij_E) := [(0, .bipush 92, 2, 0, 0, 0), (2, .bipush 6, 2, 0, 0, 0), (4, .iload_n 1, 1, 0, 0, 0), (5, .imul, 1, 0, 0, 0), (6, .iadd, 1, 0, 0, 0), (7, .istore_n 3, 1, 0, 0, 0), (8, .aload_n 0, 1, 0, 0, 0), (9, .getfield 7, 3, 11, 0, 0), (12, .iload_n 3, 1, 0, 0, 0), (13, .iaload, 1, 0, 0, 0), (14, .bipush 13, 2, 0, 0, 0), (16, .if_icmp .ne 51, 3, 0, 0, 0), (19, .aload_n 0, 1, 0, 0, 0), (20, .getfield 7, 3, 11, 0, 0), (23, .iload_n 3, 1, 0, 0, 0), (24, .iconst 4, 1, 0, 0, 0), (25, .iadd, 1, 0, 0, 0), (26, .iaload, 1, 0, 0, 0), (27, .iconst (-1), 1, 0, 0, 0), (28, .if_icmp .ne 13, 3, 0, 0, 0), (31, .aload_n 0, 1, 0, 0, 0), (32, .getfield 7, 3, 11, 0, 0), (35, .bipush 10, 2, 0, 0, 0), (37, .iaload, 1, 0, 0, 0), (38, .goto 28, 3, 0, 0, 0), (41, .aload_n 0, 1, 0, 0, 0), (42, .aload_n 0, 1, 0, 0, 0), (43, .getfield 7, 3, 11, 0, 0), (46, .bipush 92, 2, 0, 0, 0), (48, .bipush 6, 2, 0, 0, 0), (50, .aload_n 0, 1, 0, 0, 0), (51, .getfield 7, 3, 11, 0, 0), (54, .iload_n 3, 1, 0, 0, 0), (55, .iconst 4, 1, 0, 0, 0), (56, .iadd, 1, 0, 0, 0), (57, .iaload, 1, 0, 0, 0), (58, .imul, 1, 0, 0, 0), (59, .iadd, 1, 0, 0, 0), (60, .iconst 4, 1, 0, 0, 0), (61, .iadd, 1, 0, 0, 0), (62, .iaload, 1, 0, 0, 0), (63, .invokevirtual 443, 3, 342, 1, 21), (66, .ireturn, 1, 0, 0, 0), (67, .aload_n 0, 1, 0, 0, 0), (68, .getfield 7, 3, 11, 0, 0), (71, .iload_n 3, 1, 0, 0, 0), (72, .iaload, 1, 0, 0, 0), (73, .bipush 12, 2, 0, 0, 0), (75, .if_icmp .ne 15, 3, 0, 0, 0), (78, .iload_n 2, 1, 0, 0, 0), (79, .ifCond .ne 7, 3, 0, 0, 0), (82, .iconst 1, 1, 0, 0, 0), (83, .goto 32, 3, 0, 0, 0), (86, .iconst 0, 1, 0, 0, 0), (87, .goto 28, 3, 0, 0, 0), (90, .aload_n 0, 1, 0, 0, 0), (91, .getfield 7, 3, 11, 0, 0), (94, .iload_n 3, 1, 0, 0, 0), (95, .iaload, 1, 0, 0, 0), (96, .sipush 1500, 3, 0, 0, 0), (99, .if_icmp .lt 15, 3, 0, 0, 0), (102, .aload_n 0, 1, 0, 0, 0), (103, .iload_n 3, 1, 0, 0, 0), (104, .invokevirtual 446, 3, 343, 1, 21), (107, .ifCond .ne 7, 3, 0, 0, 0), (110, .iconst 1, 1, 0, 0, 0), (111, .goto 4, 3, 0, 0, 0), (114, .iconst 0, 1, 0, 0, 0), (115, .istore 4, 2, 0, 0, 0), (117, .aload_n 0, 1, 0, 0, 0), (118, .iload 4, 2, 0, 0, 0), (120, .ifCond .eq 16, 3, 0, 0, 0), (123, .aload_n 0, 1, 0, 0, 0), (124, .getfield 7, 3, 11, 0, 0), (127, .iload_n 3, 1, 0, 0, 0), (128, .iconst 4, 1, 0, 0, 0), (129, .iadd, 1, 0, 0, 0), (130, .iaload, 1, 0, 0, 0), (131, .iconst 1, 1, 0, 0, 0), (132, .iadd, 1, 0, 0, 0), (133, .goto 6, 3, 0, 0, 0), (136, .iload_n 1, 1, 0, 0, 0), (137, .iconst 1, 1, 0, 0, 0), (138, .iadd, 1, 0, 0, 0), (139, .invokevirtual 443, 3, 342, 1, 21), (142, .ireturn, 1, 0, 0, 0)]
noncomputable def ij_t345 : List (Nat × ij_E) := [(0, .aload_n 0, 1, 0, 0, 0), (1, .iload_n 1, 1, 0, 0, 0), (2, .putfield 414, 3, 11, 43, 0), (5, .aload_n 0, 1, 0, 0, 0), (6, .iconst 0, 1, 0, 0, 0), (7, .putfield 449, 3, 11, 44, 0), (10, .aload_n 0, 1, 0, 0, 0), (11, .iconst 0, 1, 0, 0, 0), (12, .putfield 422, 3, 11, 45, 0), (15, .aload_n 0, 1, 0, 0, 0), (16, .iconst 0, 1, 0, 0, 0), (17, .putfield 425, 3, 11, 46, 0), (20, .iconst 0, 1, 0, 0, 0), (21, .istore_n 2, 1, 0, 0, 0), (22, .iload_n 2, 1, 0, 0, 0), (23, .iconst 5, 1, 0, 0, 0), (24, .if_icmp .ge 16, 3, 0, 0, 0), (27, .aload_n 0, 1, 0, 0, 0), (28, .getfield 93, 3, 11, 49, 0), (31, .iload_n 2, 1, 0, 0, 0), (32, .iconst 0, 1, 0, 0, 0), (33, .iastore, 1, 0, 0, 0), (34, .iinc 2 1, 3, 0, 0, 0), (37, .goto (-15), 3, 0, 0, 0), (40, .iconst 0, 1, 0, 0, 0), (41, .istore_n 2, 1, 0, 0, 0), (42, .iload_n 2, 1, 0, 0, 0), (43, .aload_n 0, 1, 0, 0, 0), (44, .getfield 7, 3, 11, 0, 0), (47, .bipush 10, 2, 0, 0, 0), (49, .iaload, 1, 0, 0, 0), (50, .if_icmp .ge 124, 3, 0, 0, 0), (53, .aload_n 0, 1, 0, 0, 0), (54, .getfield 93, 3, 11, 49, 0), (57, .iconst 4, 1, 0, 0, 0), (58, .iaload, 1, 0, 0, 0), (59, .ifCond .ne 115, 3, 0, 0, 0), (62, .aload_n 0, 1, 0, 0, 0), (63, .getfield 449, 3, 11, 44, 0), (66, .sipush 300, 3, 0, 0, 0), (69, .if_icmp .ne 13, 3, 0, 0, 0), (72, .aload_n 0, 1, 0, 0, 0), (73, .getfield 93, 3, 11, 49, 0), (76, .iconst 4, 1, 0, 0, 0), (77, .iconst 1, 1, 0, 0, 0), (78, .iastore, 1, 0, 0, 0), (79, .goto (-37), 3, 0, 0, 0), (82, .bipush 92, 2, 0, 0, 0), (84, .bipush 6, 2, 0, 0, 0), (86, .iload_n 2, 1, 0, 0, 0), (87, .imul, 1, 0, 0, 0), (88, .iadd, 1, 0, 0, 0), (89, .istore_n 3, 1, 0, 0, 0), (90, .aload_n 0, 1, 0, 0, 0), (91, .dup, 1, 0, 0, 0), (92, .getfield 449, 3, 11, 44, 0), (95, .iconst 1, 1, 0, 0, 0), (96, .iadd, 1, 0, 0, 0), (97, .putfield 449, 3, 11, 44, 0), (100, .aload_n 0, 1, 0, 0, 0), (101, .getfield 7, 3, 11, 0, 0), (104, .iload_n 3, 1, 0, 0, 0), (105, .iaload, 1, 0, 0, 0), (106, .bipush 18, 2, 0, 0, 0), (108, .if_icmp .ne 6, 3, 0, 0, 0), (111, .goto 63, 3, 0, 0, 0), (114, .aload_n 0, 1, 0, 0, 0), (115, .iload_n 3, 1, 0, 0, 0), (116, .invokevirtual 452, 3, 340, 1, 21), (119, .istore 4, 2, 0, 0, 0), (121, .iload 4, 2, 0, 0, 0), (123, .ifCond .ne 13, 3, 0, 0, 0), (126, .aload_n 0, 1, 0, 0, 0), (127, .getfield 93, 3, 11, 49, 0), (130, .iconst 0, 1, 0, 0, 0), (131, .dup2, 1, 0, 0, 0), (132, .iaload, 1, 0, 0, 0), (133, .iconst 1, 1, 0, 0, 0), (134, .iadd, 1, 0, 0, 0), (135, .iastore, 1, 0, 0, 0), (136, .aload_n 0, 1, 0, 0, 0), (137, .getfield 7, 3, 11, 0, 0), (140, .iload_n 3, 1, 0, 0, 0), (141, .iaload, 1, 0, 0, 0), (142, .bipush 16, 2, 0, 0, 0), (144, .if_icmp .ne 19, 3, 0, 0, 0), (147, .aload_n 0, 1, 0, 0, 0), (148, .getfield 90, 3, 11, 48, 0), (151, .iload_n 2, 1, 0, 0, 0), (152, .aload_n 0, 1, 0, 0, 0), (153, .getfield 7, 3, 11, 0, 0), (156, .iload_n 3, 1, 0, 0, 0), (157, .iconst 1, 1, 0, 0, 0), (158, .iadd, 1, 0, 0, 0), (159, .iaload, 1, 0, 0, 0), (160, .iconst 1, 1, 0, 0, 0), (161, .isub, 1, 0, 0, 0), (162, .iastore, 1, 0, 0, 0), (163, .aload_n 0, 1, 0, 0, 0), (164, .iload_n 2, 1, 0, 0, 0), (165, .iload 4, 2, 0, 0, 0), (167, .invokevirtual 455, 3, 344, 2, 21), (170, .istore_n 2, 1, 0, 0, 0), (171, .goto (-129), 3, 0, 0, 0), (174, .aload_n 0, 1, 0, 0, 0), (175, .getfield 422, 3, 11, 45, 0), (178, .ifCond .le 10, 3, 0, 0, 0), (181, .aload_n 0, 1, 0, 0, 0), (182, .invokevirtual 440, 3, 341, 0, 21), (185, .goto (-11), 3, 0, 0, 0), (188, .return_, 1, 0, 0, 0)]
noncomputable def ij_t346 : List (Nat × ij_E) := [(0, .iload_n 1, 1, 0, 0, 0), (1, .i2l, 1, 0, 0, 0), (2, .lconst 0, 1, 0, 0, 0), (3, .ldc2_w 459, 3, 0, 9999, 0), (6, .invokestatic 289, 3, 149, 3, 1), (9, .ifCond .ne 9, 3, 0, 0, 0), (12, .aload_n 0, 1, 0, 0, 0), (13, .iconst 1, 1, 0, 0, 0), (14, .invokevirtual 118, 3, 98, 1, 21), (17, .ireturn, 1, 0, 0, 0), (18, .aload_n 0, 1, 0, 0, 0), (19, .getfield 7, 3, 11, 0, 0), (22, .bipush 10, 2, 0, 0, 0), (24, .iaload, 1, 0, 0, 0), (25, .iconst (-1), 1, 0, 0, 0), (26, .if_icmp .ne 10, 3, 0, 0, 0), (29, .aload_n 0, 1, 0, 0, 0), (30, .bipush 6, 2, 0, 0, 0), (32, .invokevirtual 118, 3, 98, 1, 21), (35, .ireturn, 1, 0, 0, 0), (36, .aload_n 0, 1, 0, 0, 0), (37, .iload_n 1, 1, 0, 0, 0), (38, .invokevirtual 461, 3, 345, 1, 21), (41, .iconst 0, 1, 0, 0, 0), (42, .istore_n 2, 1, 0, 0, 0), (43, .iload_n 2, 1, 0, 0, 0), (44, .iconst 5, 1, 0, 0, 0), (45, .if_icmp .ge 21, 3, 0, 0, 0), (48, .aload_n 0, 1, 0, 0, 0), (49, .getfield 96, 3, 11, 50, 0), (52, .iload_n 2, 1, 0, 0, 0), (53, .aload_n 0, 1, 0, 0, 0), (54, .getfield 93, 3, 11, 49, 0), (57, .iload_n 2, 1, 0, 0, 0), (58, .iaload, 1, 0, 0, 0), (59, .iastore, 1, 0, 0, 0), (60, .iinc 2 1, 3, 0, 0, 0), (63, .goto (-20), 3, 0, 0, 0), (66, .iconst 0, 1, 0, 0, 0), (67, .istore_n 2, 1, 0, 0, 0), (68, .iload_n 2, 1, 0, 0, 0), (69, .aload_n 0, 1, 0, 0, 0), (70, .getfield 425, 3, 11, 46, 0), (73, .if_icmp .ge 21, 3, 0, 0, 0), (76, .aload_n 0, 1, 0, 0, 0), (77, .getfield 105, 3, 11, 53, 0), (80, .iload_n 2, 1, 0, 0, 0), (81, .aload_n 0, 1, 0, 0, 0), (82, .getfield 102, 3, 11, 52, 0), (85, .iload_n 2, 1, 0, 0, 0), (86, .iaload, 1, 0, 0, 0), (87, .iastore, 1, 0, 0, 0), (88, .iinc 2 1, 3, 0, 0, 0), (91, .goto (-23), 3, 0, 0, 0), (94, .aload_n 0, 1, 0, 0, 0), (95, .aload_n 0, 1, 0, 0, 0), (96, .getfield 425, 3, 11, 46, 0), (99, .putfield 464, 3, 11, 47, 0), (102, .aload_n 0, 1, 0, 0, 0), (103, .iconst 1, 1, 0, 0, 0), (104, .putfield 467, 3, 11, 54, 0), (107, .aload_n 0, 1, 0, 0, 0), (108, .aload_n 0, 1, 0, 0, 0), (109, .getfield 449, 3, 11, 44, 0), (112, .invokevirtual 122, 3, 115, 1, 21), (115, .ireturn, 1, 0, 0, 0)]
noncomputable def ij_t347 : List (Nat × ij_E) := [(0, .iload_n 1, 1, 0, 0, 0), (1, .tableswitch 51 0 3 #[31, 36, 41, 46], 31, 0, 0, 0), (32, .aload_n 0, 1, 0, 0, 0), (33, .getfield 38, 3, 1, 10, 0), (36, .ireturn, 1, 0, 0, 0), (37, .aload_n 0, 1, 0, 0, 0), (38, .getfield 41, 3, 1, 11, 0), (41, .ireturn, 1, 0, 0, 0), (42, .aload_n 0, 1, 0, 0, 0), (43, .getfield 44, 3, 1, 12, 0), (46, .ireturn, 1, 0, 0, 0), (47, .aload_n 0, 1, 0, 0, 0), (48, .getfield 47, 3, 1, 13, 0), (51, .ireturn, 1, 0, 0, 0), (52, .aload_n 0, 1, 0, 0, 0), (53, .getfield 50, 3, 1, 14, 0), (56, .ifCond .eq 7, 3, 0, 0, 0), (59, .iconst 1, 1, 0, 0, 0), (60, .goto 4, 3, 0, 0, 0), (63, .iconst 0, 1, 0, 0, 0), (64, .ireturn, 1, 0, 0, 0)]
noncomputable def ij_t348 : List (Nat × ij_E) := [(0, .iload_n 1, 1, 0, 0, 0), (1, .ifCond .lt 8, 3, 0, 0, 0), (4, .iload_n 1, 1, 0, 0, 0), (5, .iconst 4, 1, 0, 0, 0), (6, .if_icmp .le 9, 3, 0, 0, 0), (9, .aload_n 0, 1, 0, 0, 0), (10, .iconst 1, 1, 0, 0, 0), (11, .invokevirtual 139, 3, 44, 1, 20), (14, .ireturn, 1, 0, 0, 0), (15, .aload_n 0, 1, 0, 0, 0), (16, .getfield 94, 3, 10, 13, 0), (19, .getfield 380, 3, 1, 8, 0), (22, .ifCond .eq 18, 3, 0, 0, 0), (25, .aload_n 0, 1, 0, 0, 0), (26, .aload_n 0, 1, 0, 0, 0), (27, .getfield 94, 3, 10, 13, 0), (30, .iload_n 1, 1, 0, 0, 0), (31, .invokevirtual 383, 3, 347, 1, 11), (34, .invokevirtual 191, 3, 90, 1, 20), (37, .goto 9, 3, 0, 0, 0), (40, .aload_n 0, 1, 0, 0, 0), (41, .bipush 6, 2, 0, 0, 0), (43, .invokevirtual 139, 3, 44, 1, 20), (46, .ireturn, 1, 0, 0, 0)]
noncomputable def ij_t349 : List (Nat × ij_E) := [(0, .iload_n 1, 1, 0, 0, 0), (1, .ifCond .lt 8, 3, 0, 0, 0), (4, .iload_n 1, 1, 0, 0, 0), (5, .iconst 4, 1, 0, 0, 0), (6, .if_icmp .le 11, 3, 0, 0, 0), (9, .aload_n 0, 1, 0, 0, 0), (10, .iconst 1, 1, 0, 0, 0), (11, .invokevirtual 118, 3, 98, 1, 21), (14, .goto 29, 3, 0, 0, 0), (17, .aload_n 0, 1, 0, 0, 0), (18, .getfield 467, 3, 11, 54, 0), (21, .ifCond .eq 16, 3, 0, 0, 0), (24, .aload_n 0, 1, 0, 0, 0), (25, .aload_n 0, 1, 0, 0, 0), (26, .getfield 96, 3, 11, 50, 0), (29, .iload_n 1, 1, 0, 0, 0), (30, .iaload, 1, 0, 0, 0), (31, .invokevirtual 122, 3, 115, 1, 21), (34, .goto 9, 3, 0, 0, 0), (37, .aload_n 0, 1, 0, 0, 0), (38, .bipush 6, 2, 0, 0, 0), (40, .invokevirtual 118, 3, 98, 1, 21), (43, .ireturn, 1, 0, 0, 0)]
noncomputable def ij_t350 : List (Nat × ij_E) := [(0, .iload_n 1, 1, 0, 0, 0), (1, .ifCond .lt 29, 3, 0, 0, 0), (4, .iload_n 1, 1, 0, 0, 0), (5, .aload_n 0, 1, 0, 0, 0), (6, .getfield 47, 3, 1, 13, 0), (9, .if_icmp .ge 21, 3, 0, 0, 0), (12, .iload_n 1, 1, 0, 0, 0), (13, .aload_n 0, 1, 0, 0, 0), (14, .getfield 53, 3, 1, 15, 0), (17, .arraylength, 1, 0, 0, 0), (18, .if_icmp .ge 12, 3, 0, 0, 0), (21, .aload_n 0, 1, 0, 0, 0), (22, .getfield 53, 3, 1, 15, 0), (25, .iload_n 1, 1, 0, 0, 0), (26, .iaload, 1, 0, 0, 0), (27, .goto 4, 3, 0, 0, 0), (30, .iconst (-1), 1, 0, 0, 0), (31, .ireturn, 1, 0, 0, 0)]
noncomputable def ij_t351 : List (Nat × ij_E) := [(0, .aload_n 0, 1, 0, 0, 0), (1, .aload_n 0, 1, 0, 0, 0), (2, .getfield 94, 3, 10, 13, 0), (5, .iload_n 1, 1, 0, 0, 0), (6, .invokevirtual 386, 3, 350, 1, 11), (9, .invokevirtual 260, 3, 167, 1, 20), (12, .ireturn, 1, 0, 0, 0)]
noncomputable def ij_t352 : List (Nat × ij_E) := [(0, .aload_n 0, 1, 0, 0, 0), (1, .getfield 467, 3, 11, 54, 0), (4, .ifCond .eq 28, 3, 0, 0, 0), (7, .iload_n 1, 1, 0, 0, 0), (8, .ifCond .lt 24, 3, 0, 0, 0), (11, .iload_n 1, 1, 0, 0, 0), (12, .aload_n 0, 1, 0, 0, 0), (13, .getfield 464, 3, 11, 47, 0), (16, .if_icmp .ge 16, 3, 0, 0, 0), (19, .aload_n 0, 1, 0, 0, 0), (20, .aload_n 0, 1, 0, 0, 0), (21, .getfield 105, 3, 11, 53, 0), (24, .iload_n 1, 1, 0, 0, 0), (25, .iaload, 1, 0, 0, 0), (26, .invokevirtual 122, 3, 115, 1, 21), (29, .goto 9, 3, 0, 0, 0), (32, .aload_n 0, 1, 0, 0, 0), (33, .bipush 6, 2, 0, 0, 0), (35, .invokevirtual 118, 3, 98, 1, 21), (38, .ireturn, 1, 0, 0, 0)]
noncomputable def ij_t353 : List (Nat × ij_E) := [(0, .iload_n 1, 1, 0, 0, 0), (1, .ifCond .lt 32, 3, 0, 0, 0), (4, .iload_n 1, 1, 0, 0, 0), (5, .sipush 9999, 3, 0, 0, 0), (8, .if_icmp .gt 25, 3, 0, 0, 0), (11, .iload_n 2, 1, 0, 0, 0), (12, .iconst 1, 1, 0, 0, 0), (13, .if_icmp .lt 20, 3, 0, 0, 0), (16, .iload_n 2, 1, 0, 0, 0), (17, .bipush 20, 2, 0, 0, 0), (19, .if_icmp .gt 14, 3, 0, 0, 0), (22, .iload_n 1, 1, 0, 0, 0), (23, .iload_n 2, 1, 0, 0, 0), (24, .iadd, 1, 0, 0, 0), (25, .iconst 1, 1, 0, 0, 0), (26, .isub, 1, 0, 0, 0), (27, .sipush 9999, 3, 0, 0, 0), (30, .if_icmp .le 9, 3, 0, 0, 0), (33, .aload_n 0, 1, 0, 0, 0), (34, .iconst 1, 1, 0, 0, 0), (35, .invokevirtual 119, 3, 28, 1, 20), (38, .ireturn, 1, 0, 0, 0), (39, .aload_n 0, 1, 0, 0, 0), (40, .getfield 60, 3, 10, 8, 0), (43, .getfield 183, 3, 6, 5, 0), (46, .ifCond .ne 10, 3, 0, 0, 0), (49, .aload_n 0, 1, 0, 0, 0), (50, .bipush 6, 2, 0, 0, 0), (52, .invokevirtual 119, 3, 28, 1, 20), (55, .ireturn, 1, 0, 0, 0), (56, .lconst 0, 1, 0, 0, 0), (57, .lstore_n 3, 1, 0, 0, 0), (58, .iconst 0, 1, 0, 0, 0), (59, .istore 5, 2, 0, 0, 0), (61, .iload 5, 2, 0, 0, 0), (63, .iload_n 2, 1, 0, 0, 0), (64, .if_icmp .ge 45, 3, 0, 0, 0), (67, .aload_n 0, 1, 0, 0, 0), (68, .getfield 98, 3, 10, 14, 0), (71, .aload_n 0, 1, 0, 0, 0), (72, .getfield 53, 3, 10, 7, 0), (75, .invokevirtual 179, 3, 87, 1, 14), (78, .aload_n 0, 1, 0, 0, 0), (79, .getfield 101, 3, 10, 15, 0), (82, .iload_n 1, 1, 0, 0, 0), (83, .iload 5, 2, 0, 0, 0), (85, .iadd, 1, 0, 0, 0), (86, .invokevirtual 374, 3, 333, 1, 11), (89, .lload_n 3, 1, 0, 0, 0), (90, .aload_n 0, 1, 0, 0, 0), (91, .getfield 98, 3, 10, 14, 0), (94, .getfield 226, 3, 4, 3, 0), (97, .invokestatic 220, 3, 88, 1, 1), (100, .i2l, 1, 0, 0, 0), (101, .ladd, 1, 0, 0, 0), (102, .lstore_n 3, 1, 0, 0, 0), (103, .iinc 5 1, 3, 0, 0, 0), (106, .goto (-45), 3, 0, 0, 0), (109, .aload_n 0, 1, 0, 0, 0), (110, .lload_n 3, 1, 0, 0, 0), (111, .iload_n 2, 1, 0, 0, 0), (112, .i2l, 1, 0, 0, 0), (113, .invokevirtual 362, 3, 301, 2, 20), (116, .ireturn, 1, 0, 0, 0)]
noncomputable def ij_t354 : List (Nat × ij_E) := [(0, .iconst 0, 1, 0, 0, 0), (1, .istore_n 2, 1, 0, 0, 0), (2, .iload_n 2, 1, 0, 0, 0), (3, .bipush 92, 2, 0, 0, 0), (5, .if_icmp .ge 23, 3, 0, 0, 0), (8, .aload_n 0, 1, 0, 0, 0), (9, .getfield 7, 3, 11, 0, 0), (12, .iload_n 2, 1, 0, 0, 0), (13, .aload_n 0, 1, 0, 0, 0), (14, .getfield 7, 3, 11, 0, 0), (17, .iload_n 1, 1, 0, 0, 0), (18, .iload_n 2, 1, 0, 0, 0), (19, .iadd, 1, 0, 0, 0), (20, .iaload, 1, 0, 0, 0), (21, .iastore, 1, 0, 0, 0), (22, .iinc 2 1, 3, 0, 0, 0), (25, .goto (-23), 3, 0, 0, 0), (28, .return_, 1, 0, 0, 0)]
noncomputable def ij_t355 : List (Nat × ij_E) := [(0, .iload_n 1, 1, 0, 0, 0), (1, .i2l, 1, 0, 0, 0), (2, .lconst 0, 1, 0, 0, 0), (3, .ldc2_w 459, 3, 0, 9999, 0), (6, .invokestatic 289, 3, 149, 3, 1), (9, .ifCond .eq 26, 3, 0, 0, 0), (12, .iload_n 2, 1, 0, 0, 0), (13, .i2l, 1, 0, 0, 0), (14, .lconst 1, 1, 0, 0, 0), (15, .ldc2_w 471, 3, 0, 20, 0), (18, .invokestatic 289, 3, 149, 3, 1), (21, .ifCond .eq 14, 3, 0, 0, 0), (24, .iload_n 1, 1, 0, 0, 0), (25, .iload_n 2, 1, 0, 0, 0), (26, .iadd, 1, 0, 0, 0), (27, .iconst 1, 1, 0, 0, 0), (28, .isub, 1, 0, 0, 0), (29, .sipush 9999, 3, 0, 0, 0), (32, .if_icmp .le 9, 3, 0, 0, 0), (35, .aload_n 0, 1, 0, 0, 0), (36, .iconst 1, 1, 0, 0, 0), (37, .invokevirtual 125, 3, 33, 1, 21), (40, .ireturn, 1, 0, 0, 0), (41, .aload_n 0, 1, 0, 0, 0), (42, .getfield 7, 3, 11, 0, 0), (45, .bipush 10, 2, 0, 0, 0), (47, .iaload, 1, 0, 0, 0), (48, .iconst (-1), 1, 0, 0, 0), (49, .if_icmp .ne 10, 3, 0, 0, 0), (52, .aload_n 0, 1, 0, 0, 0), (53, .bipush 6, 2, 0, 0, 0), (55, .invokevirtual 125, 3, 33, 1, 21), (58, .ireturn, 1, 0, 0, 0), (59, .aload_n 0, 1, 0, 0, 0), (60, .sipush 2300, 3, 0, 0, 0), (63, .invokevirtual 321, 3, 191, 1, 21), (66, .lconst 0, 1, 0, 0, 0), (67, .lstore_n 3, 1, 0, 0, 0), (68, .iconst 0, 1, 0, 0, 0), (69, .istore 5, 2, 0, 0, 0), (71, .iload 5, 2, 0, 0, 0), (73, .iload_n 2, 1, 0, 0, 0), (74, .if_icmp .ge 32, 3, 0, 0, 0), (77, .aload_n 0, 1, 0, 0, 0), (78, .iload_n 1, 1, 0, 0, 0), (79, .iload 5, 2, 0, 0, 0), (81, .iadd, 1, 0, 0, 0), (82, .invokevirtual 461, 3, 345, 1, 21), (85, .lload_n 3, 1, 0, 0, 0), (86, .aload_n 0, 1, 0, 0, 0), (87, .invokevirtual 282, 3, 144, 0, 21), (90, .i2l, 1, 0, 0, 0), (91, .ladd, 1, 0, 0, 0), (92, .lstore_n 3, 1, 0, 0, 0), (93, .aload_n 0, 1, 0, 0, 0), (94, .sipush 2300, 3, 0, 0, 0), (97, .invokevirtual 473, 3, 354, 1, 21), (100, .iinc 5 1, 3, 0, 0, 0), (103, .goto (-32), 3, 0, 0, 0), (106, .aload_n 0, 1, 0, 0, 0), (107, .lload_n 3, 1, 0, 0, 0), (108, .iload_n 2, 1, 0, 0, 0), (109, .i2l, 1, 0, 0, 0), (110, .invokevirtual 403, 3, 303, 2, 21), (113, .ireturn, 1, 0, 0, 0)]
noncomputable def ij_t356 : List (Nat × ij_E) := [(0, .aload_n 0, 1, 0, 0, 0), (1, .getfield 112, 3, 10, 18, 0), (4, .ifCond .lt 11, 3, 0, 0, 0), (7, .aload_n 0, 1, 0, 0, 0), (8, .getfield 112, 3, 10, 18, 0), (11, .iconst 3, 1, 0, 0, 0), (12, .if_icmp .lt 9, 3, 0, 0, 0), (15, .aload_n 0, 1, 0, 0, 0), (16, .iconst 4, 1, 0, 0, 0), (17, .invokevirtual 139, 3, 44, 1, 20), (20, .ireturn, 1, 0, 0, 0), (21, .aload_n 0, 1, 0, 0, 0), (22, .getfield 104, 3, 10, 16, 0), (25, .aload_n 0, 1, 0, 0, 0), (26, .getfield 112, 3, 10, 18, 0), (29, .aaload, 1, 0, 0, 0), (30, .aload_n 0, 1, 0, 0, 0), (31, .getfield 53, 3, 10, 7, 0), (34, .invokevirtual 179, 3, 87, 1, 14), (37, .aload_n 0, 1, 0, 0, 0), (38, .getfield 108, 3, 10, 17, 0), (41, .aload_n 0, 1, 0, 0, 0), (42, .getfield 112, 3, 10, 18, 0), (45, .aaload, 1, 0, 0, 0), (46, .aload_n 0, 1, 0, 0, 0), (47, .getfield 60, 3, 10, 8, 0), (50, .invokevirtual 197, 3, 127, 1, 16), (53, .aload_n 0, 1, 0, 0, 0), (54, .dup, 1, 0, 0, 0), (55, .getfield 112, 3, 10, 18, 0), (58, .iconst 1, 1, 0, 0, 0), (59, .iadd, 1, 0, 0, 0), (60, .putfield 112, 3, 10, 18, 0), (63, .aload_n 0, 1, 0, 0, 0), (64, .aload_n 0, 1, 0, 0, 0), (65, .getfield 112, 3, 10, 18, 0), (68, .invokevirtual 191, 3, 90, 1, 20), (71, .ireturn, 1, 0, 0, 0)]
noncomputable def ij_t357 : List (Nat × ij_E) := [(0, .iconst 0, 1, 0, 0, 0), (1, .istore_n 3, 1, 0, 0, 0), (2, .iload_n 3, 1, 0, 0, 0), (3, .sipush 460, 3, 0, 0, 0), (6, .if_icmp .ge 33, 3, 0, 0, 0), (9, .aload_n 0, 1, 0, 0, 0), (10, .getfield 7, 3, 11, 0, 0), (13, .sipush 460, 3, 0, 0, 0), (16, .iload_n 2, 1, 0, 0, 0), (17, .imul, 1, 0, 0, 0), (18, .iload_n 3, 1, 0, 0, 0), (19, .iadd, 1, 0, 0, 0), (20, .aload_n 0, 1, 0, 0, 0), (21, .getfield 7, 3, 11, 0, 0), (24, .sipush 460, 3, 0, 0, 0), (27, .iload_n 1, 1, 0, 0, 0), (28, .imul, 1, 0, 0, 0), (29, .iload_n 3, 1, 0, 0, 0), (30, .iadd, 1, 0, 0, 0), (31, .iaload, 1, 0, 0, 0), (32, .iastore, 1, 0, 0, 0), (33, .iinc 3 1, 3, 0, 0, 0), (36, .goto (-34), 3, 0, 0, 0), (39, .return_, 1, 0, 0, 0)]
noncomputable def ij_t358 : List (Nat × ij_E) := [(0, .aload_n 0, 1, 0, 0, 0), (1, .getfield 476, 3, 11, 55, 0), (4, .iconst 3, 1, 0, 0, 0), (5, .if_icmp .ne 9, 3, 0, 0, 0), (8, .aload_n 0, 1, 0, 0, 0), (9, .iconst 4, 1, 0, 0, 0), (10, .invokevirtual 118, 3, 98, 1, 21), (13, .ireturn, 1, 0, 0, 0), (14, .aload_n 0, 1, 0, 0, 0), (15, .dup, 1, 0, 0, 0), (16, .getfield 476, 3, 11, 55, 0), (19, .iconst 1, 1, 0, 0, 0), (20, .iadd, 1, 0, 0, 0), (21, .putfield 476, 3, 11, 55, 0), (24, .aload_n 0, 1, 0, 0, 0), (25, .iconst 0, 1, 0, 0, 0), (26, .aload_n 0, 1, 0, 0, 0), (27, .getfield 476, 3, 11, 55, 0), (30, .invokevirtual 479, 3, 357, 2, 21), (33, .aload_n 0, 1, 0, 0, 0), (34, .aload_n 0, 1, 0, 0, 0), (35, .getfield 476, 3, 11, 55, 0), (38, .invokevirtual 122, 3, 115, 1, 21), (41, .ireturn, 1, 0, 0, 0)]
noncomputable def ij_t359 : List (Nat × ij_E) := [(0, .aload_n 0, 1, 0, 0, 0), (1, .getfield 112, 3, 10, 18, 0), (4, .iconst 1, 1, 0, 0, 0), (5, .if_icmp .lt 11, 3, 0, 0, 0), (8, .aload_n 0, 1, 0, 0, 0), (9, .getfield 112, 3, 10, 18, 0), (12, .iconst 3, 1, 0, 0, 0), (13, .if_icmp .le 10, 3, 0, 0, 0), (16, .aload_n 0, 1, 0, 0, 0), (17, .bipush 6, 2, 0, 0, 0), (19, .invokevirtual 139, 3, 44, 1, 20), (22, .ireturn, 1, 0, 0, 0), (23, .aload_n 0, 1, 0, 0, 0), (24, .dup, 1, 0, 0, 0), (25, .getfield 112, 3, 10, 18, 0), (28, .iconst 1, 1, 0, 0, 0), (29, .isub, 1, 0, 0, 0), (30, .putfield 112, 3, 10, 18, 0), (33, .aload_n 0, 1, 0, 0, 0), (34, .getfield 53, 3, 10, 7, 0), (37, .aload_n 0, 1, 0, 0, 0), (38, .getfield 104, 3, 10, 16, 0), (41, .aload_n 0, 1, 0, 0, 0), (42, .getfield 112, 3, 10, 18, 0), (45, .aaload, 1, 0, 0, 0), (46, .invokevirtual 179, 3, 87, 1, 14), (49, .aload_n 0, 1, 0, 0, 0), (50, .getfield 60, 3, 10, 8, 0), (53, .aload_n 0, 1, 0, 0, 0), (54, .getfield 108, 3, 10, 17, 0), (57, .aload_n 0, 1, 0, 0, 0), (58, .getfield 112, 3, 10, 18, 0), (61, .aaload, 1, 0, 0, 0), (62, .invokevirtual 197, 3, 127, 1, 16), (65, .aload_n 0, 1, 0, 0, 0), (66, .aload_n 0, 1, 0, 0, 0), (67, .getfield 112, 3, 10, 18, 0), (70, .invokevirtual 191, 3, 90, 1, 20), (73, .ireturn, 1, 0, 0, 0)]
noncomputable def ij_t360 : List (Nat × ij_E) := [(0, .aload_n 0, 1, 0, 0, 0), (1, .getfield 476, 3, 11, 55, 0), (4, .ifCond .ne 10, 3, 0, 0, 0), (7, .aload_n 0, 1, 0, 0, 0), (8, .bipush 6, 2, 0, 0, 0), (10, .invokevirtual 118, 3, 98, 1, 21), (13, .ireturn, 1, 0, 0, 0), (14, .aload_n 0, 1, 0, 0, 0), (15, .aload_n 0, 1, 0, 0, 0), (16, .getfield 476, 3, 11, 55, 0), (19, .iconst 0, 1, 0, 0, 0), (20, .invokevirtual 479, 3, 357, 2, 21), (23, .aload_n 0, 1, 0, 0, 0), (24, .dup, 1, 0, 0, 0), (25, .getfield 476, 3, 11, 55, 0), (28, .iconst 1, 1, 0, 0, 0), (29, .isub, 1, 0, 0, 0), (30, .putfield 476, 3, 11, 55, 0), (33, .aload_n 0, 1, 0, 0, 0), (34, .aload_n 0, 1, 0, 0, 0), (35, .getfield 476, 3, 11, 55, 0), (38, .invokevirtual 122, 3, 115, 1, 21), (41, .ireturn, 1, 0, 0, 0)]
noncomputable def ij_t361_0 : List (Nat × ij_E) := [(0, .new 7, 3, 10, 19, 0), (3, .dup, 1, 0, 0, 0), (4, .invokespecial 9, 3, 18, 0, 2), (7, .astore_n 1, 1, 0, 0, 0), (8, .new 10, 3, 11, 56, 0), (11, .dup, 1, 0, 0, 0), (12, .invokespecial 12, 3, 20, 0, 2), (15, .astore_n 2, 1, 0, 0, 0), (16, .iconst 0, 1, 0, 0, 0), (17, .istore_n 3, 1, 0, 0, 0), (18, .iload_n 3, 1, 0, 0, 0), (19, .aload_n 0, 1, 0, 0, 0), (20, .arraylength, 1, 0, 0, 0), (21, .bipush 6, 2, 0, 0, 0), (23, .isub, 1, 0, 0, 0), (24, .if_icmp .gt 1922, 3, 0, 0, 0), (27, .aload_n 0, 1, 0, 0, 0), (28, .iload_n 3, 1, 0, 0, 0), (29, .iaload, 1, 0, 0, 0), (30, .bipush 127, 2, 0, 0, 0), (32, .iand, 1, 0, 0, 0), (33, .tableswitch 1907 0 66 #[283, 296, 310, 324, 367, 440, 474, 537, 600, 623, 646, 669, 692, 715, 738, 761, 784, 817, 840, 863, 896, 919, 942, 955, 978, 991, 1014, 1037, 1060, 1073, 1086, 1109, 1122, 1155, 1178, 1201, 1224, 1247, 1280, 1313, 1336, 1369, 1392, 1425, 1438, 1461, 1474, 1487, 1500, 1523, 1536, 1559, 1572, 1595, 1618, 1631, 1654, 1667, 1690, 1723, 1746, 1779, 1802, 1825, 1848, 1881, 1894], 283, 0, 0, 0), (316, .aload_n 1, 1, 0, 0, 0), (317, .invokevirtual 13, 3, 21, 0, 20), (320, .aload_n 2, 1, 0, 0, 0), (321, .invokevirtual 17, 3, 22, 0, 21), (324, .if_icmp .eq 1616, 3, 0, 0, 0), (327, .iconst 0, 1, 0, 0, 0), (328, .ireturn, 1, 0, 0, 0), (329, .aload_n 1, 1, 0, 0, 0), (330, .invokevirtual 18, 3, 23, 0, 20), (333, .aload_n 2, 1, 0, 0, 0), (334, .invokevirtual 22, 3, 24, 0, 21), (337, .lcmp, 1, 0, 0, 0), (338, .ifCond .eq 1602, 3, 0, 0, 0), (341, .iconst 0, 1, 0, 0, 0), (342, .ireturn, 1, 0, 0, 0), (343, .aload_n 1, 1, 0, 0, 0), (344, .invokevirtual 23, 3, 25, 0, 20), (347, .aload_n 2, 1, 0, 0, 0), (348, .invokevirtual 26, 3, 26, 0, 21), (351, .lcmp, 1, 0, 0, 0), (352, .ifCond .eq 1588, 3, 0, 0, 0), (355, .iconst 0, 1, 0, 0, 0), (356, .ireturn, 1, 0, 0, 0), (357, .aload_n 1, 1, 0, 0, 0), (358, .aload_n 0, 1, 0, 0, 0), (359, .iload_n 3, 1, 0, 0, 0), (360, .iconst 1, 1, 0, 0, 0), (361, .iadd, 1, 0, 0, 0), (362, .iaload, 1, 0, 0, 0), (363, .aload_n 0, 1, 0, 0, 0), (364, .iload_n 3, 1, 0, 0, 0), (365, .iconst 2, 1, 0, 0, 0), (366, .iadd, 1, 0, 0, 0), (367, .iaload, 1, 0, 0, 0), (368, .aload_n 0, 1, 0, 0, 0), (369, .iload_n 3, 1, 0, 0, 0), (370, .iconst 3, 1, 0, 0, 0), (371, .iadd, 1, 0, 0, 0), (372, .iaload, 1, 0, 0, 0), (373, .invokevirtual 27, 3, 31, 3, 20), (376, .aload_n 2, 1, 0, 0, 0), (377, .aload_n 0, 1, 0, 0, 0), (378, .iload_n 3, 1, 0, 0, 0), (379, .iconst 1, 1, 0, 0, 0), (380, .iadd, 1, 0, 0, 0), (381, .iaload, 1, 0, 0, 0), (382, .aload_n 0, 1, 0, 0, 0), (383, .iload_n 3, 1, 0, 0, 0), (384, .iconst 2, 1, 0, 0, 0), (385, .iadd, 1, 0, 0, 0), (386, .iaload, 1, 0, 0, 0), (387, .aload_n 0, 1, 0, 0, 0), (388, .iload_n 3, 1, 0, 0, 0), (389, .iconst 3, 1, 0, 0, 0), (390, .iadd, 1, 0, 0, 0), (391, .iaload, 1, 0, 0, 0), (392, .invokevirtual 31, 3, 34, 3, 21), (395, .if_icmp .eq 1545, 3, 0, 0, 0), (398, .iconst 0, 1, 0, 0, 0), (399, .ireturn, 1, 0, 0, 0), (400, .aload_n 1, 1, 0, 0, 0), (401, .aload_n 0, 1, 0, 0, 0), (402, .iload_n 3, 1, 0, 0, 0), (403, .iconst 1, 1, 0, 0, 0), (404, .iadd, 1, 0, 0, 0), (405, .iaload, 1, 0, 0, 0), (406, .aload_n 0, 1, 0, 0, 0), (407, .iload_n 3, 1, 0, 0, 0), (408, .iconst 2, 1, 0, 0, 0), (409, .iadd, 1, 0, 0, 0), (410, .iaload, 1, 0, 0, 0), (411, .aload_n 0, 1, 0, 0, 0), (412, .iload_n 3, 1, 0, 0, 0), (413, .iconst 3, 1, 0, 0, 0), (414, .iadd, 1, 0, 0, 0), (415, .iaload, 1, 0, 0, 0), (416, .i2l, 1, 0, 0, 0), (417, .bipush 32, 2, 0, 0, 0), (419, .lshl, 1, 0, 0, 0), (420, .aload_n 0, 1, 0, 0, 0), (421, .iload_n 3, 1, 0, 0, 0), (422, .iconst 4, 1, 0, 0, 0), (423, .iadd, 1, 0, 0, 0), (424, .iaload, 1, 0, 0, 0), (425, .i2l, 1, 0, 0, 0), (426, .ldc2_w 32, 3, 0, 4294967295, 0), (429, .land, 1, 0, 0, 0), (430, .lor, 1, 0, 0, 0), (431, .invokevirtual 34, 3, 40, 3, 20), (434, .aload_n 2, 1, 0, 0, 0), (435, .aload_n 0, 1, 0, 0, 0), (436, .iload_n 3, 1, 0, 0, 0), (437, .iconst 1, 1, 0, 0, 0), (438, .iadd, 1, 0, 0, 0), (439, .iaload, 1, 0, 0, 0), (440, .aload_n 0, 1, 0, 0, 0), (441, .iload_n 3, 1, 0, 0, 0), (442, .iconst 2, 1, 0, 0, 0), (443, .iadd, 1, 0, 0, 0), (444, .iaload, 1, 0, 0, 0), (445, .aload_n 0, 1, 0, 0, 0), (446, .iload_n 3, 1, 0, 0, 0), (447, .iconst 3, 1, 0, 0, 0), (448, .iadd, 1, 0, 0, 0), (449, .iaload, 1, 0, 0, 0), (450, .i2l, 1, 0, 0, 0), (451, .bipush 32, 2, 0, 0, 0), (453, .lshl, 1, 0, 0, 0), (454, .aload_n 0, 1, 0, 0, 0), (455, .iload_n 3, 1, 0, 0, 0), (456, .iconst 4, 1, 0, 0, 0), (457, .iadd, 1, 0, 0, 0), (458, .iaload, 1, 0, 0, 0), (459, .i2l, 1, 0, 0, 0), (460, .ldc2_w 32, 3, 0, 4294967295, 0), (463, .land, 1, 0, 0, 0), (464, .lor, 1, 0, 0, 0), (465, .invokevirtual 38, 3, 43, 3, 21), (468, .if_icmp .eq 1472, 3, 0, 0, 0), (471, .iconst 0, 1, 0, 0, 0), (472, .ireturn, 1, 0, 0, 0), (473, .aload_n 1, 1, 0, 0, 0), (474, .aload_n 0, 1, 0, 0, 0), (475, .iload_n 3, 1, 0, 0, 0), (476, .iconst 1, 1, 0, 0, 0), (477, .iadd, 1, 0, 0, 0), (478, .iaload, 1, 0, 0, 0), (479, .aload_n 0, 1, 0, 0, 0)]
noncomputable def ij_t361_1 : List (Nat × ij_E) := [(480, .iload_n 3, 1, 0, 0, 0), (481, .iconst 2, 1, 0, 0, 0), (482, .iadd, 1, 0, 0, 0), (483, .iaload, 1, 0, 0, 0), (484, .invokevirtual 39, 3, 46, 2, 20), (487, .aload_n 2, 1, 0, 0, 0), (488, .aload_n 0, 1, 0, 0, 0), (489, .iload_n 3, 1, 0, 0, 0), (490, .iconst 1, 1, 0, 0, 0), (491, .iadd, 1, 0, 0, 0), (492, .iaload, 1, 0, 0, 0), (493, .aload_n 0, 1, 0, 0, 0), (494, .iload_n 3, 1, 0, 0, 0), (495, .iconst 2, 1, 0, 0, 0), (496, .iadd, 1, 0, 0, 0), (497, .iaload, 1, 0, 0, 0), (498, .invokevirtual 43, 3, 47, 2, 21), (501, .lcmp, 1, 0, 0, 0), (502, .ifCond .eq 1438, 3, 0, 0, 0), (505, .iconst 0, 1, 0, 0, 0), (506, .ireturn, 1, 0, 0, 0), (507, .aload_n 1, 1, 0, 0, 0), (508, .aload_n 0, 1, 0, 0, 0), (509, .iload_n 3, 1, 0, 0, 0), (510, .iconst 1, 1, 0, 0, 0), (511, .iadd, 1, 0, 0, 0), (512, .iaload, 1, 0, 0, 0), (513, .aload_n 0, 1, 0, 0, 0), (514, .iload_n 3, 1, 0, 0, 0), (515, .iconst 2, 1, 0, 0, 0), (516, .iadd, 1, 0, 0, 0), (517, .iaload, 1, 0, 0, 0), (518, .aload_n 0, 1, 0, 0, 0), (519, .iload_n 3, 1, 0, 0, 0), (520, .iconst 3, 1, 0, 0, 0), (521, .iadd, 1, 0, 0, 0), (522, .iaload, 1, 0, 0, 0), (523, .aload_n 0, 1, 0, 0, 0), (524, .iload_n 3, 1, 0, 0, 0), (525, .iconst 4, 1, 0, 0, 0), (526, .iadd, 1, 0, 0, 0), (527, .iaload, 1, 0, 0, 0), (528, .aload_n 0, 1, 0, 0, 0), (529, .iload_n 3, 1, 0, 0, 0), (530, .iconst 5, 1, 0, 0, 0), (531, .iadd, 1, 0, 0, 0), (532, .iaload, 1, 0, 0, 0), (533, .invokevirtual 44, 3, 49, 5, 20), (536, .aload_n 2, 1, 0, 0, 0), (537, .aload_n 0, 1, 0, 0, 0), (538, .iload_n 3, 1, 0, 0, 0), (539, .iconst 1, 1, 0, 0, 0), (540, .iadd, 1, 0, 0, 0), (541, .iaload, 1, 0, 0, 0), (542, .aload_n 0, 1, 0, 0, 0), (543, .iload_n 3, 1, 0, 0, 0), (544, .iconst 2, 1, 0, 0, 0), (545, .iadd, 1, 0, 0, 0), (546, .iaload, 1, 0, 0, 0), (547, .aload_n 0, 1, 0, 0, 0), (548, .iload_n 3, 1, 0, 0, 0), (549, .iconst 3, 1, 0, 0, 0), (550, .iadd, 1, 0, 0, 0), (551, .iaload, 1, 0, 0, 0), (552, .aload_n 0, 1, 0, 0, 0), (553, .iload_n 3, 1, 0, 0, 0), (554, .iconst 4, 1, 0, 0, 0), (555, .iadd, 1, 0, 0, 0), (556, .iaload, 1, 0, 0, 0), (557, .aload_n 0, 1, 0, 0, 0), (558, .iload_n 3, 1, 0, 0, 0), (559, .iconst 5, 1, 0, 0, 0), (560, .iadd, 1, 0, 0, 0), (561, .iaload, 1, 0, 0, 0), (562, .invokevirtual 48, 3, 50, 5, 21), (565, .if_icmp .eq 1375, 3, 0, 0, 0), (568, .iconst 0, 1, 0, 0, 0), (569, .ireturn, 1, 0, 0, 0), (570, .aload_n 1, 1, 0, 0, 0), (571, .aload_n 0, 1, 0, 0, 0), (572, .iload_n 3, 1, 0, 0, 0), (573, .iconst 1, 1, 0, 0, 0), (574, .iadd, 1, 0, 0, 0), (575, .iaload, 1, 0, 0, 0), (576, .aload_n 0, 1, 0, 0, 0), (577, .iload_n 3, 1, 0, 0, 0), (578, .iconst 2, 1, 0, 0, 0), (579, .iadd, 1, 0, 0, 0), (580, .iaload, 1, 0, 0, 0), (581, .aload_n 0, 1, 0, 0, 0), (582, .iload_n 3, 1, 0, 0, 0), (583, .iconst 3, 1, 0, 0, 0), (584, .iadd, 1, 0, 0, 0), (585, .iaload, 1, 0, 0, 0), (586, .aload_n 0, 1, 0, 0, 0), (587, .iload_n 3, 1, 0, 0, 0), (588, .iconst 4, 1, 0, 0, 0), (589, .iadd, 1, 0, 0, 0), (590, .iaload, 1, 0, 0, 0), (591, .aload_n 0, 1, 0, 0, 0), (592, .iload_n 3, 1, 0, 0, 0), (593, .iconst 5, 1, 0, 0, 0), (594, .iadd, 1, 0, 0, 0), (595, .iaload, 1, 0, 0, 0), (596, .invokevirtual 49, 3, 52, 5, 20), (599, .aload_n 2, 1, 0, 0, 0), (600, .aload_n 0, 1, 0, 0, 0), (601, .iload_n 3, 1, 0, 0, 0), (602, .iconst 1, 1, 0, 0, 0), (603, .iadd, 1, 0, 0, 0), (604, .iaload, 1, 0, 0, 0), (605, .aload_n 0, 1, 0, 0, 0), (606, .iload_n 3, 1, 0, 0, 0), (607, .iconst 2, 1, 0, 0, 0), (608, .iadd, 1, 0, 0, 0), (609, .iaload, 1, 0, 0, 0), (610, .aload_n 0, 1, 0, 0, 0), (611, .iload_n 3, 1, 0, 0, 0), (612, .iconst 3, 1, 0, 0, 0), (613, .iadd, 1, 0, 0, 0), (614, .iaload, 1, 0, 0, 0), (615, .aload_n 0, 1, 0, 0, 0), (616, .iload_n 3, 1, 0, 0, 0), (617, .iconst 4, 1, 0, 0, 0), (618, .iadd, 1, 0, 0, 0), (619, .iaload, 1, 0, 0, 0), (620, .aload_n 0, 1, 0, 0, 0), (621, .iload_n 3, 1, 0, 0, 0), (622, .iconst 5, 1, 0, 0, 0), (623, .iadd, 1, 0, 0, 0), (624, .iaload, 1, 0, 0, 0), (625, .invokevirtual 53, 3, 54, 5, 21), (628, .if_icmp .eq 1312, 3, 0, 0, 0), (631, .iconst 0, 1, 0, 0, 0), (632, .ireturn, 1, 0, 0, 0), (633, .aload_n 1, 1, 0, 0, 0), (634, .aload_n 0, 1, 0, 0, 0), (635, .iload_n 3, 1, 0, 0, 0), (636, .iconst 1, 1, 0, 0, 0), (637, .iadd, 1, 0, 0, 0), (638, .iaload, 1, 0, 0, 0), (639, .invokevirtual 54, 3, 91, 1, 20), (642, .aload_n 2, 1, 0, 0, 0), (643, .aload_n 0, 1, 0, 0, 0), (644, .iload_n 3, 1, 0, 0, 0), (645, .iconst 1, 1, 0, 0, 0), (646, .iadd, 1, 0, 0, 0), (647, .iaload, 1, 0, 0, 0), (648, .invokevirtual 58, 3, 117, 1, 21), (651, .if_icmp .eq 1289, 3, 0, 0, 0)]
noncomputable def ij_t361_2 : List (Nat × ij_E) := [(654, .iconst 0, 1, 0, 0, 0), (655, .ireturn, 1, 0, 0, 0), (656, .aload_n 1, 1, 0, 0, 0), (657, .aload_n 0, 1, 0, 0, 0), (658, .iload_n 3, 1, 0, 0, 0), (659, .iconst 1, 1, 0, 0, 0), (660, .iadd, 1, 0, 0, 0), (661, .iaload, 1, 0, 0, 0), (662, .invokevirtual 59, 3, 128, 1, 20), (665, .aload_n 2, 1, 0, 0, 0), (666, .aload_n 0, 1, 0, 0, 0), (667, .iload_n 3, 1, 0, 0, 0), (668, .iconst 1, 1, 0, 0, 0), (669, .iadd, 1, 0, 0, 0), (670, .iaload, 1, 0, 0, 0), (671, .invokevirtual 62, 3, 132, 1, 21), (674, .if_icmp .eq 1266, 3, 0, 0, 0), (677, .iconst 0, 1, 0, 0, 0), (678, .ireturn, 1, 0, 0, 0), (679, .aload_n 1, 1, 0, 0, 0), (680, .aload_n 0, 1, 0, 0, 0), (681, .iload_n 3, 1, 0, 0, 0), (682, .iconst 1, 1, 0, 0, 0), (683, .iadd, 1, 0, 0, 0), (684, .iaload, 1, 0, 0, 0), (685, .invokevirtual 63, 3, 133, 1, 20), (688, .aload_n 2, 1, 0, 0, 0), (689, .aload_n 0, 1, 0, 0, 0), (690, .iload_n 3, 1, 0, 0, 0), (691, .iconst 1, 1, 0, 0, 0), (692, .iadd, 1, 0, 0, 0), (693, .iaload, 1, 0, 0, 0), (694, .invokevirtual 66, 3, 134, 1, 21), (697, .if_icmp .eq 1243, 3, 0, 0, 0), (700, .iconst 0, 1, 0, 0, 0), (701, .ireturn, 1, 0, 0, 0), (702, .aload_n 1, 1, 0, 0, 0), (703, .aload_n 0, 1, 0, 0, 0), (704, .iload_n 3, 1, 0, 0, 0), (705, .iconst 1, 1, 0, 0, 0), (706, .iadd, 1, 0, 0, 0), (707, .iaload, 1, 0, 0, 0), (708, .invokevirtual 67, 3, 142, 1, 20), (711, .aload_n 2, 1, 0, 0, 0), (712, .aload_n 0, 1, 0, 0, 0), (713, .iload_n 3, 1, 0, 0, 0), (714, .iconst 1, 1, 0, 0, 0), (715, .iadd, 1, 0, 0, 0), (716, .iaload, 1, 0, 0, 0), (717, .invokevirtual 70, 3, 145, 1, 21), (720, .if_icmp .eq 1220, 3, 0, 0, 0), (723, .iconst 0, 1, 0, 0, 0), (724, .ireturn, 1, 0, 0, 0), (725, .aload_n 1, 1, 0, 0, 0), (726, .aload_n 0, 1, 0, 0, 0), (727, .iload_n 3, 1, 0, 0, 0), (728, .iconst 1, 1, 0, 0, 0), (729, .iadd, 1, 0, 0, 0), (730, .iaload, 1, 0, 0, 0), (731, .invokevirtual 71, 3, 148, 1, 20), (734, .aload_n 2, 1, 0, 0, 0), (735, .aload_n 0, 1, 0, 0, 0), (736, .iload_n 3, 1, 0, 0, 0), (737, .iconst 1, 1, 0, 0, 0), (738, .iadd, 1, 0, 0, 0), (739, .iaload, 1, 0, 0, 0), (740, .invokevirtual 74, 3, 150, 1, 21), (743, .if_icmp .eq 1197, 3, 0, 0, 0), (746, .iconst 0, 1, 0, 0, 0), (747, .ireturn, 1, 0, 0, 0), (748, .aload_n 1, 1, 0, 0, 0), (749, .aload_n 0, 1, 0, 0, 0), (750, .iload_n 3, 1, 0, 0, 0), (751, .iconst 1, 1, 0, 0, 0), (752, .iadd, 1, 0, 0, 0), (753, .iaload, 1, 0, 0, 0), (754, .invokevirtual 75, 3, 152, 1, 20), (757, .aload_n 2, 1, 0, 0, 0), (758, .aload_n 0, 1, 0, 0, 0), (759, .iload_n 3, 1, 0, 0, 0), (760, .iconst 1, 1, 0, 0, 0), (761, .iadd, 1, 0, 0, 0), (762, .iaload, 1, 0, 0, 0), (763, .invokevirtual 78, 3, 154, 1, 21), (766, .if_icmp .eq 1174, 3, 0, 0, 0), (769, .iconst 0, 1, 0, 0, 0), (770, .ireturn, 1, 0, 0, 0), (771, .aload_n 1, 1, 0, 0, 0), (772, .aload_n 0, 1, 0, 0, 0), (773, .iload_n 3, 1, 0, 0, 0), (774, .iconst 1, 1, 0, 0, 0), (775, .iadd, 1, 0, 0, 0), (776, .iaload, 1, 0, 0, 0), (777, .invokevirtual 79, 3, 157, 1, 20), (780, .aload_n 2, 1, 0, 0, 0), (781, .aload_n 0, 1, 0, 0, 0), (782, .iload_n 3, 1, 0, 0, 0), (783, .iconst 1, 1, 0, 0, 0), (784, .iadd, 1, 0, 0, 0), (785, .iaload, 1, 0, 0, 0), (786, .invokevirtual 82, 3, 160, 1, 21), (789, .if_icmp .eq 1151, 3, 0, 0, 0), (792, .iconst 0, 1, 0, 0, 0), (793, .ireturn, 1, 0, 0, 0), (794, .aload_n 1, 1, 0, 0, 0), (795, .aload_n 0, 1, 0, 0, 0), (796, .iload_n 3, 1, 0, 0, 0), (797, .iconst 1, 1, 0, 0, 0), (798, .iadd, 1, 0, 0, 0), (799, .iaload, 1, 0, 0, 0), (800, .invokevirtual 83, 3, 161, 1, 20), (803, .aload_n 2, 1, 0, 0, 0), (804, .aload_n 0, 1, 0, 0, 0), (805, .iload_n 3, 1, 0, 0, 0), (806, .iconst 1, 1, 0, 0, 0), (807, .iadd, 1, 0, 0, 0), (808, .iaload, 1, 0, 0, 0), (809, .invokevirtual 86, 3, 162, 1, 21), (812, .if_icmp .eq 1128, 3, 0, 0, 0), (815, .iconst 0, 1, 0, 0, 0), (816, .ireturn, 1, 0, 0, 0), (817, .aload_n 1, 1, 0, 0, 0), (818, .aload_n 0, 1, 0, 0, 0), (819, .iload_n 3, 1, 0, 0, 0), (820, .iconst 1, 1, 0, 0, 0), (821, .iadd, 1, 0, 0, 0), (822, .iaload, 1, 0, 0, 0), (823, .aload_n 0, 1, 0, 0, 0), (824, .iload_n 3, 1, 0, 0, 0), (825, .iconst 2, 1, 0, 0, 0), (826, .iadd, 1, 0, 0, 0), (827, .iaload, 1, 0, 0, 0), (828, .invokevirtual 87, 3, 163, 2, 20), (831, .aload_n 2, 1, 0, 0, 0), (832, .aload_n 0, 1, 0, 0, 0), (833, .iload_n 3, 1, 0, 0, 0), (834, .iconst 1, 1, 0, 0, 0), (835, .iadd, 1, 0, 0, 0), (836, .iaload, 1, 0, 0, 0), (837, .aload_n 0, 1, 0, 0, 0), (838, .iload_n 3, 1, 0, 0, 0), (839, .iconst 2, 1, 0, 0, 0), (840, .iadd, 1, 0, 0, 0), (841, .iaload, 1, 0, 0, 0), (842, .invokevirtual 91, 3, 165, 2, 21), (845, .if_icmp .eq 1095, 3, 0, 0, 0), (848, .iconst 0, 1, 0, 0, 0), (849, .ireturn, 1, 0, 0, 0), (850, .aload_n 1, 1, 0, 0, 0), (851, .aload_n 0, 1, 0, 0, 0)]
noncomputable def ij_t361_3 : List (Nat × ij_E) := [(852, .iload_n 3, 1, 0, 0, 0), (853, .iconst 1, 1, 0, 0, 0), (854, .iadd, 1, 0, 0, 0), (855, .iaload, 1, 0, 0, 0), (856, .invokevirtual 92, 3, 168, 1, 20), (859, .aload_n 2, 1, 0, 0, 0), (860, .aload_n 0, 1, 0, 0, 0), (861, .iload_n 3, 1, 0, 0, 0), (862, .iconst 1, 1, 0, 0, 0), (863, .iadd, 1, 0, 0, 0), (864, .iaload, 1, 0, 0, 0), (865, .invokevirtual 95, 3, 170, 1, 21), (868, .if_icmp .eq 1072, 3, 0, 0, 0), (871, .iconst 0, 1, 0, 0, 0), (872, .ireturn, 1, 0, 0, 0), (873, .aload_n 1, 1, 0, 0, 0), (874, .aload_n 0, 1, 0, 0, 0), (875, .iload_n 3, 1, 0, 0, 0), (876, .iconst 1, 1, 0, 0, 0), (877, .iadd, 1, 0, 0, 0), (878, .iaload, 1, 0, 0, 0), (879, .invokevirtual 96, 3, 172, 1, 20), (882, .aload_n 2, 1, 0, 0, 0), (883, .aload_n 0, 1, 0, 0, 0), (884, .iload_n 3, 1, 0, 0, 0), (885, .iconst 1, 1, 0, 0, 0), (886, .iadd, 1, 0, 0, 0), (887, .iaload, 1, 0, 0, 0), (888, .invokevirtual 99, 3, 174, 1, 21), (891, .if_icmp .eq 1049, 3, 0, 0, 0), (894, .iconst 0, 1, 0, 0, 0), (895, .ireturn, 1, 0, 0, 0), (896, .aload_n 1, 1, 0, 0, 0), (897, .aload_n 0, 1, 0, 0, 0), (898, .iload_n 3, 1, 0, 0, 0), (899, .iconst 1, 1, 0, 0, 0), (900, .iadd, 1, 0, 0, 0), (901, .iaload, 1, 0, 0, 0), (902, .aload_n 0, 1, 0, 0, 0), (903, .iload_n 3, 1, 0, 0, 0), (904, .iconst 2, 1, 0, 0, 0), (905, .iadd, 1, 0, 0, 0), (906, .iaload, 1, 0, 0, 0), (907, .invokevirtual 100, 3, 176, 2, 20), (910, .aload_n 2, 1, 0, 0, 0), (911, .aload_n 0, 1, 0, 0, 0), (912, .iload_n 3, 1, 0, 0, 0), (913, .iconst 1, 1, 0, 0, 0), (914, .iadd, 1, 0, 0, 0), (915, .iaload, 1, 0, 0, 0), (916, .aload_n 0, 1, 0, 0, 0), (917, .iload_n 3, 1, 0, 0, 0), (918, .iconst 2, 1, 0, 0, 0), (919, .iadd, 1, 0, 0, 0), (920, .iaload, 1, 0, 0, 0), (921, .invokevirtual 103, 3, 177, 2, 21), (924, .if_icmp .eq 1016, 3, 0, 0, 0), (927, .iconst 0, 1, 0, 0, 0), (928, .ireturn, 1, 0, 0, 0), (929, .aload_n 1, 1, 0, 0, 0), (930, .aload_n 0, 1, 0, 0, 0), (931, .iload_n 3, 1, 0, 0, 0), (932, .iconst 1, 1, 0, 0, 0), (933, .iadd, 1, 0, 0, 0), (934, .iaload, 1, 0, 0, 0), (935, .invokevirtual 104, 3, 179, 1, 20), (938, .aload_n 2, 1, 0, 0, 0), (939, .aload_n 0, 1, 0, 0, 0), (940, .iload_n 3, 1, 0, 0, 0), (941, .iconst 1, 1, 0, 0, 0), (942, .iadd, 1, 0, 0, 0), (943, .iaload, 1, 0, 0, 0), (944, .invokevirtual 107, 3, 181, 1, 21), (947, .if_icmp .eq 993, 3, 0, 0, 0), (950, .iconst 0, 1, 0, 0, 0), (951, .ireturn, 1, 0, 0, 0), (952, .aload_n 1, 1, 0, 0, 0), (953, .aload_n 0, 1, 0, 0, 0), (954, .iload_n 3, 1, 0, 0, 0), (955, .iconst 1, 1, 0, 0, 0), (956, .iadd, 1, 0, 0, 0), (957, .iaload, 1, 0, 0, 0), (958, .invokevirtual 108, 3, 183, 1, 20), (961, .aload_n 2, 1, 0, 0, 0), (962, .aload_n 0, 1, 0, 0, 0), (963, .iload_n 3, 1, 0, 0, 0), (964, .iconst 1, 1, 0, 0, 0), (965, .iadd, 1, 0, 0, 0), (966, .iaload, 1, 0, 0, 0), (967, .invokevirtual 111, 3, 185, 1, 21), (970, .if_icmp .eq 970, 3, 0, 0, 0), (973, .iconst 0, 1, 0, 0, 0), (974, .ireturn, 1, 0, 0, 0), (975, .aload_n 1, 1, 0, 0, 0), (976, .invokevirtual 112, 3, 186, 0, 20), (979, .aload_n 2, 1, 0, 0, 0), (980, .invokevirtual 115, 3, 187, 0, 21), (983, .if_icmp .eq 957, 3, 0, 0, 0), (986, .iconst 0, 1, 0, 0, 0), (987, .ireturn, 1, 0, 0, 0), (988, .aload_n 1, 1, 0, 0, 0), (989, .aload_n 0, 1, 0, 0, 0), (990, .iload_n 3, 1, 0, 0, 0), (991, .iconst 1, 1, 0, 0, 0), (992, .iadd, 1, 0, 0, 0), (993, .iaload, 1, 0, 0, 0), (994, .invokevirtual 116, 3, 190, 1, 20), (997, .aload_n 2, 1, 0, 0, 0), (998, .aload_n 0, 1, 0, 0, 0), (999, .iload_n 3, 1, 0, 0, 0), (1000, .iconst 1, 1, 0, 0, 0), (1001, .iadd, 1, 0, 0, 0), (1002, .iaload, 1, 0, 0, 0), (1003, .invokevirtual 119, 3, 195, 1, 21), (1006, .if_icmp .eq 934, 3, 0, 0, 0), (1009, .iconst 0, 1, 0, 0, 0), (1010, .ireturn, 1, 0, 0, 0), (1011, .aload_n 1, 1, 0, 0, 0), (1012, .invokevirtual 120, 3, 196, 0, 20), (1015, .aload_n 2, 1, 0, 0, 0), (1016, .invokevirtual 123, 3, 197, 0, 21), (1019, .if_icmp .eq 921, 3, 0, 0, 0), (1022, .iconst 0, 1, 0, 0, 0), (1023, .ireturn, 1, 0, 0, 0), (1024, .aload_n 1, 1, 0, 0, 0), (1025, .aload_n 0, 1, 0, 0, 0), (1026, .iload_n 3, 1, 0, 0, 0), (1027, .iconst 1, 1, 0, 0, 0), (1028, .iadd, 1, 0, 0, 0), (1029, .iaload, 1, 0, 0, 0), (1030, .invokevirtual 124, 3, 198, 1, 20), (1033, .aload_n 2, 1, 0, 0, 0), (1034, .aload_n 0, 1, 0, 0, 0), (1035, .iload_n 3, 1, 0, 0, 0), (1036, .iconst 1, 1, 0, 0, 0), (1037, .iadd, 1, 0, 0, 0), (1038, .iaload, 1, 0, 0, 0), (1039, .invokevirtual 127, 3, 199, 1, 21), (1042, .if_icmp .eq 898, 3, 0, 0, 0), (1045, .iconst 0, 1, 0, 0, 0), (1046, .ireturn, 1, 0, 0, 0), (1047, .aload_n 1, 1, 0, 0, 0), (1048, .aload_n 0, 1, 0, 0, 0), (1049, .iload_n 3, 1, 0, 0, 0), (1050, .iconst 1, 1, 0, 0, 0), (1051, .iadd, 1, 0, 0, 0), (1052, .iaload, 1, 0, 0, 0), (1053, .invokevirtual 128, 3, 201, 1, 20), (1056, .aload_n 2, 1, 0, 0, 0), (1057, .aload_n 0, 1, 0, 0, 0)]
noncomputable def ij_t361_4 : List (Nat × ij_E) := [(1058, .iload_n 3, 1, 0, 0, 0), (1059, .iconst 1, 1, 0, 0, 0), (1060, .iadd, 1, 0, 0, 0), (1061, .iaload, 1, 0, 0, 0), (1062, .invokevirtual 131, 3, 202, 1, 21), (1065, .if_icmp .eq 875, 3, 0, 0, 0), (1068, .iconst 0, 1, 0, 0, 0), (1069, .ireturn, 1, 0, 0, 0), (1070, .aload_n 1, 1, 0, 0, 0), (1071, .aload_n 0, 1, 0, 0, 0), (1072, .iload_n 3, 1, 0, 0, 0), (1073, .iconst 1, 1, 0, 0, 0), (1074, .iadd, 1, 0, 0, 0), (1075, .iaload, 1, 0, 0, 0), (1076, .invokevirtual 132, 3, 204, 1, 20), (1079, .aload_n 2, 1, 0, 0, 0), (1080, .aload_n 0, 1, 0, 0, 0), (1081, .iload_n 3, 1, 0, 0, 0), (1082, .iconst 1, 1, 0, 0, 0), (1083, .iadd, 1, 0, 0, 0), (1084, .iaload, 1, 0, 0, 0), (1085, .invokevirtual 135, 3, 206, 1, 21), (1088, .if_icmp .eq 852, 3, 0, 0, 0), (1091, .iconst 0, 1, 0, 0, 0), (1092, .ireturn, 1, 0, 0, 0), (1093, .aload_n 1, 1, 0, 0, 0), (1094, .invokevirtual 136, 3, 207, 0, 20), (1097, .aload_n 2, 1, 0, 0, 0), (1098, .invokevirtual 139, 3, 208, 0, 21), (1101, .if_icmp .eq 839, 3, 0, 0, 0), (1104, .iconst 0, 1, 0, 0, 0), (1105, .ireturn, 1, 0, 0, 0), (1106, .aload_n 1, 1, 0, 0, 0), (1107, .invokevirtual 140, 3, 210, 0, 20), (1110, .aload_n 2, 1, 0, 0, 0), (1111, .invokevirtual 143, 3, 212, 0, 21), (1114, .if_icmp .eq 826, 3, 0, 0, 0), (1117, .iconst 0, 1, 0, 0, 0), (1118, .ireturn, 1, 0, 0, 0), (1119, .aload_n 1, 1, 0, 0, 0), (1120, .aload_n 0, 1, 0, 0, 0), (1121, .iload_n 3, 1, 0, 0, 0), (1122, .iconst 1, 1, 0, 0, 0), (1123, .iadd, 1, 0, 0, 0), (1124, .iaload, 1, 0, 0, 0), (1125, .invokevirtual 144, 3, 213, 1, 20), (1128, .aload_n 2, 1, 0, 0, 0), (1129, .aload_n 0, 1, 0, 0, 0), (1130, .iload_n 3, 1, 0, 0, 0), (1131, .iconst 1, 1, 0, 0, 0), (1132, .iadd, 1, 0, 0, 0), (1133, .iaload, 1, 0, 0, 0), (1134, .invokevirtual 147, 3, 214, 1, 21), (1137, .if_icmp .eq 803, 3, 0, 0, 0), (1140, .iconst 0, 1, 0, 0, 0), (1141, .ireturn, 1, 0, 0, 0), (1142, .aload_n 1, 1, 0, 0, 0), (1143, .invokevirtual 148, 3, 216, 0, 20), (1146, .aload_n 2, 1, 0, 0, 0), (1147, .invokevirtual 151, 3, 218, 0, 21), (1150, .if_icmp .eq 790, 3, 0, 0, 0), (1153, .iconst 0, 1, 0, 0, 0), (1154, .ireturn, 1, 0, 0, 0), (1155, .aload_n 1, 1, 0, 0, 0), (1156, .aload_n 0, 1, 0, 0, 0), (1157, .iload_n 3, 1, 0, 0, 0), (1158, .iconst 1, 1, 0, 0, 0), (1159, .iadd, 1, 0, 0, 0), (1160, .iaload, 1, 0, 0, 0), (1161, .aload_n 0, 1, 0, 0, 0), (1162, .iload_n 3, 1, 0, 0, 0), (1163, .iconst 2, 1, 0, 0, 0), (1164, .iadd, 1, 0, 0, 0), (1165, .iaload, 1, 0, 0, 0), (1166, .invokevirtual 152, 3, 219, 2, 20), (1169, .aload_n 2, 1, 0, 0, 0), (1170, .aload_n 0, 1, 0, 0, 0), (1171, .iload_n 3, 1, 0, 0, 0), (1172, .iconst 1, 1, 0, 0, 0), (1173, .iadd, 1, 0, 0, 0), (1174, .iaload, 1, 0, 0, 0), (1175, .aload_n 0, 1, 0, 0, 0), (1176, .iload_n 3, 1, 0, 0, 0), (1177, .iconst 2, 1, 0, 0, 0), (1178, .iadd, 1, 0, 0, 0), (1179, .iaload, 1, 0, 0, 0), (1180, .invokevirtual 155, 3, 220, 2, 21), (1183, .if_icmp .eq 757, 3, 0, 0, 0), (1186, .iconst 0, 1, 0, 0, 0), (1187, .ireturn, 1, 0, 0, 0), (1188, .aload_n 1, 1, 0, 0, 0), (1189, .aload_n 0, 1, 0, 0, 0), (1190, .iload_n 3, 1, 0, 0, 0), (1191, .iconst 1, 1, 0, 0, 0), (1192, .iadd, 1, 0, 0, 0), (1193, .iaload, 1, 0, 0, 0), (1194, .invokevirtual 156, 3, 222, 1, 20), (1197, .aload_n 2, 1, 0, 0, 0), (1198, .aload_n 0, 1, 0, 0, 0), (1199, .iload_n 3, 1, 0, 0, 0), (1200, .iconst 1, 1, 0, 0, 0), (1201, .iadd, 1, 0, 0, 0), (1202, .iaload, 1, 0, 0, 0), (1203, .invokevirtual 159, 3, 224, 1, 21), (1206, .if_icmp .eq 734, 3, 0, 0, 0), (1209, .iconst 0, 1, 0, 0, 0), (1210, .ireturn, 1, 0, 0, 0), (1211, .aload_n 1, 1, 0, 0, 0), (1212, .aload_n 0, 1, 0, 0, 0), (1213, .iload_n 3, 1, 0, 0, 0), (1214, .iconst 1, 1, 0, 0, 0), (1215, .iadd, 1, 0, 0, 0), (1216, .iaload, 1, 0, 0, 0), (1217, .invokevirtual 160, 3, 226, 1, 20), (1220, .aload_n 2, 1, 0, 0, 0), (1221, .aload_n 0, 1, 0, 0, 0), (1222, .iload_n 3, 1, 0, 0, 0), (1223, .iconst 1, 1, 0, 0, 0), (1224, .iadd, 1, 0, 0, 0), (1225, .iaload, 1, 0, 0, 0), (1226, .invokevirtual 163, 3, 227, 1, 21), (1229, .if_icmp .eq 711, 3, 0, 0, 0), (1232, .iconst 0, 1, 0, 0, 0), (1233, .ireturn, 1, 0, 0, 0), (1234, .aload_n 1, 1, 0, 0, 0), (1235, .aload_n 0, 1, 0, 0, 0), (1236, .iload_n 3, 1, 0, 0, 0), (1237, .iconst 1, 1, 0, 0, 0), (1238, .iadd, 1, 0, 0, 0), (1239, .iaload, 1, 0, 0, 0), (1240, .invokevirtual 164, 3, 229, 1, 20), (1243, .aload_n 2, 1, 0, 0, 0), (1244, .aload_n 0, 1, 0, 0, 0), (1245, .iload_n 3, 1, 0, 0, 0), (1246, .iconst 1, 1, 0, 0, 0), (1247, .iadd, 1, 0, 0, 0), (1248, .iaload, 1, 0, 0, 0), (1249, .invokevirtual 167, 3, 231, 1, 21), (1252, .if_icmp .eq 688, 3, 0, 0, 0), (1255, .iconst 0, 1, 0, 0, 0), (1256, .ireturn, 1, 0, 0, 0), (1257, .aload_n 1, 1, 0, 0, 0), (1258, .aload_n 0, 1, 0, 0, 0), (1259, .iload_n 3, 1, 0, 0, 0), (1260, .iconst 1, 1, 0, 0, 0), (1261, .iadd, 1, 0, 0, 0), (1262, .iaload, 1, 0, 0, 0), (1263, .invokevirtual 168, 3, 234, 1, 20), (1266, .aload_n 2, 1, 0, 0, 0), (1267, .aload_n 0, 1, 0, 0, 0)]
noncomputable def ij_t361_5 : List (Nat × ij_E) := [(1268, .iload_n 3, 1, 0, 0, 0), (1269, .iconst 1, 1, 0, 0, 0), (1270, .iadd, 1, 0, 0, 0), (1271, .iaload, 1, 0, 0, 0), (1272, .invokevirtual 171, 3, 236, 1, 21), (1275, .if_icmp .eq 665, 3, 0, 0, 0), (1278, .iconst 0, 1, 0, 0, 0), (1279, .ireturn, 1, 0, 0, 0), (1280, .aload_n 1, 1, 0, 0, 0), (1281, .aload_n 0, 1, 0, 0, 0), (1282, .iload_n 3, 1, 0, 0, 0), (1283, .iconst 1, 1, 0, 0, 0), (1284, .iadd, 1, 0, 0, 0), (1285, .iaload, 1, 0, 0, 0), (1286, .aload_n 0, 1, 0, 0, 0), (1287, .iload_n 3, 1, 0, 0, 0), (1288, .iconst 2, 1, 0, 0, 0), (1289, .iadd, 1, 0, 0, 0), (1290, .iaload, 1, 0, 0, 0), (1291, .invokevirtual 172, 3, 237, 2, 20), (1294, .aload_n 2, 1, 0, 0, 0), (1295, .aload_n 0, 1, 0, 0, 0), (1296, .iload_n 3, 1, 0, 0, 0), (1297, .iconst 1, 1, 0, 0, 0), (1298, .iadd, 1, 0, 0, 0), (1299, .iaload, 1, 0, 0, 0), (1300, .aload_n 0, 1, 0, 0, 0), (1301, .iload_n 3, 1, 0, 0, 0), (1302, .iconst 2, 1, 0, 0, 0), (1303, .iadd, 1, 0, 0, 0), (1304, .iaload, 1, 0, 0, 0), (1305, .invokevirtual 175, 3, 238, 2, 21), (1308, .if_icmp .eq 632, 3, 0, 0, 0), (1311, .iconst 0, 1, 0, 0, 0), (1312, .ireturn, 1, 0, 0, 0), (1313, .aload_n 1, 1, 0, 0, 0), (1314, .aload_n 0, 1, 0, 0, 0), (1315, .iload_n 3, 1, 0, 0, 0), (1316, .iconst 1, 1, 0, 0, 0), (1317, .iadd, 1, 0, 0, 0), (1318, .iaload, 1, 0, 0, 0), (1319, .aload_n 0, 1, 0, 0, 0), (1320, .iload_n 3, 1, 0, 0, 0), (1321, .iconst 2, 1, 0, 0, 0), (1322, .iadd, 1, 0, 0, 0), (1323, .iaload, 1, 0, 0, 0), (1324, .invokevirtual 176, 3, 240, 2, 20), (1327, .aload_n 2, 1, 0, 0, 0), (1328, .aload_n 0, 1, 0, 0, 0), (1329, .iload_n 3, 1, 0, 0, 0), (1330, .iconst 1, 1, 0, 0, 0), (1331, .iadd, 1, 0, 0, 0), (1332, .iaload, 1, 0, 0, 0), (1333, .aload_n 0, 1, 0, 0, 0), (1334, .iload_n 3, 1, 0, 0, 0), (1335, .iconst 2, 1, 0, 0, 0), (1336, .iadd, 1, 0, 0, 0), (1337, .iaload, 1, 0, 0, 0), (1338, .invokevirtual 179, 3, 242, 2, 21), (1341, .if_icmp .eq 599, 3, 0, 0, 0), (1344, .iconst 0, 1, 0, 0, 0), (1345, .ireturn, 1, 0, 0, 0), (1346, .aload_n 1, 1, 0, 0, 0), (1347, .aload_n 0, 1, 0, 0, 0), (1348, .iload_n 3, 1, 0, 0, 0), (1349, .iconst 1, 1, 0, 0, 0), (1350, .iadd, 1, 0, 0, 0), (1351, .iaload, 1, 0, 0, 0), (1352, .invokevirtual 180, 3, 243, 1, 20), (1355, .aload_n 2, 1, 0, 0, 0), (1356, .aload_n 0, 1, 0, 0, 0), (1357, .iload_n 3, 1, 0, 0, 0), (1358, .iconst 1, 1, 0, 0, 0), (1359, .iadd, 1, 0, 0, 0), (1360, .iaload, 1, 0, 0, 0), (1361, .invokevirtual 183, 3, 244, 1, 21), (1364, .if_icmp .eq 576, 3, 0, 0, 0), (1367, .iconst 0, 1, 0, 0, 0), (1368, .ireturn, 1, 0, 0, 0), (1369, .aload_n 1, 1, 0, 0, 0), (1370, .aload_n 0, 1, 0, 0, 0), (1371, .iload_n 3, 1, 0, 0, 0), (1372, .iconst 1, 1, 0, 0, 0), (1373, .iadd, 1, 0, 0, 0), (1374, .iaload, 1, 0, 0, 0), (1375, .aload_n 0, 1, 0, 0, 0), (1376, .iload_n 3, 1, 0, 0, 0), (1377, .iconst 2, 1, 0, 0, 0), (1378, .iadd, 1, 0, 0, 0), (1379, .iaload, 1, 0, 0, 0), (1380, .invokevirtual 184, 3, 246, 2, 20), (1383, .aload_n 2, 1, 0, 0, 0), (1384, .aload_n 0, 1, 0, 0, 0), (1385, .iload_n 3, 1, 0, 0, 0), (1386, .iconst 1, 1, 0, 0, 0), (1387, .iadd, 1, 0, 0, 0), (1388, .iaload, 1, 0, 0, 0), (1389, .aload_n 0, 1, 0, 0, 0), (1390, .iload_n 3, 1, 0, 0, 0), (1391, .iconst 2, 1, 0, 0, 0), (1392, .iadd, 1, 0, 0, 0), (1393, .iaload, 1, 0, 0, 0), (1394, .invokevirtual 187, 3, 248, 2, 21), (1397, .if_icmp .eq 543, 3, 0, 0, 0), (1400, .iconst 0, 1, 0, 0, 0), (1401, .ireturn, 1, 0, 0, 0), (1402, .aload_n 1, 1, 0, 0, 0), (1403, .aload_n 0, 1, 0, 0, 0), (1404, .iload_n 3, 1, 0, 0, 0), (1405, .iconst 1, 1, 0, 0, 0), (1406, .iadd, 1, 0, 0, 0), (1407, .iaload, 1, 0, 0, 0), (1408, .invokevirtual 188, 3, 249, 1, 20), (1411, .aload_n 2, 1, 0, 0, 0), (1412, .aload_n 0, 1, 0, 0, 0), (1413, .iload_n 3, 1, 0, 0, 0), (1414, .iconst 1, 1, 0, 0, 0), (1415, .iadd, 1, 0, 0, 0), (1416, .iaload, 1, 0, 0, 0), (1417, .invokevirtual 191, 3, 250, 1, 21), (1420, .if_icmp .eq 520, 3, 0, 0, 0), (1423, .iconst 0, 1, 0, 0, 0), (1424, .ireturn, 1, 0, 0, 0), (1425, .aload_n 1, 1, 0, 0, 0), (1426, .aload_n 0, 1, 0, 0, 0), (1427, .iload_n 3, 1, 0, 0, 0), (1428, .iconst 1, 1, 0, 0, 0), (1429, .iadd, 1, 0, 0, 0), (1430, .iaload, 1, 0, 0, 0), (1431, .aload_n 0, 1, 0, 0, 0), (1432, .iload_n 3, 1, 0, 0, 0), (1433, .iconst 2, 1, 0, 0, 0), (1434, .iadd, 1, 0, 0, 0), (1435, .iaload, 1, 0, 0, 0), (1436, .invokevirtual 192, 3, 251, 2, 20), (1439, .aload_n 2, 1, 0, 0, 0), (1440, .aload_n 0, 1, 0, 0, 0), (1441, .iload_n 3, 1, 0, 0, 0), (1442, .iconst 1, 1, 0, 0, 0), (1443, .iadd, 1, 0, 0, 0), (1444, .iaload, 1, 0, 0, 0), (1445, .aload_n 0, 1, 0, 0, 0), (1446, .iload_n 3, 1, 0, 0, 0), (1447, .iconst 2, 1, 0, 0, 0), (1448, .iadd, 1, 0, 0, 0), (1449, .iaload, 1, 0, 0, 0), (1450, .invokevirtual 195, 3, 253, 2, 21), (1453, .if_icmp .eq 487, 3, 0, 0, 0), (1456, .iconst 0, 1, 0, 0, 0), (1457, .ireturn, 1, 0, 0, 0)]
noncomputable def ij_t361_6 : List (Nat × ij_E) := [(1458, .aload_n 1, 1, 0, 0, 0), (1459, .invokevirtual 196, 3, 254, 0, 20), (1462, .aload_n 2, 1, 0, 0, 0), (1463, .invokevirtual 199, 3, 255, 0, 21), (1466, .if_icmp .eq 474, 3, 0, 0, 0), (1469, .iconst 0, 1, 0, 0, 0), (1470, .ireturn, 1, 0, 0, 0), (1471, .aload_n 1, 1, 0, 0, 0), (1472, .aload_n 0, 1, 0, 0, 0), (1473, .iload_n 3, 1, 0, 0, 0), (1474, .iconst 1, 1, 0, 0, 0), (1475, .iadd, 1, 0, 0, 0), (1476, .iaload, 1, 0, 0, 0), (1477, .invokevirtual 200, 3, 256, 1, 20), (1480, .aload_n 2, 1, 0, 0, 0), (1481, .aload_n 0, 1, 0, 0, 0), (1482, .iload_n 3, 1, 0, 0, 0), (1483, .iconst 1, 1, 0, 0, 0), (1484, .iadd, 1, 0, 0, 0), (1485, .iaload, 1, 0, 0, 0), (1486, .invokevirtual 203, 3, 257, 1, 21), (1489, .if_icmp .eq 451, 3, 0, 0, 0), (1492, .iconst 0, 1, 0, 0, 0), (1493, .ireturn, 1, 0, 0, 0), (1494, .aload_n 1, 1, 0, 0, 0), (1495, .invokevirtual 204, 3, 258, 0, 20), (1498, .aload_n 2, 1, 0, 0, 0), (1499, .invokevirtual 207, 3, 259, 0, 21), (1502, .if_icmp .eq 438, 3, 0, 0, 0), (1505, .iconst 0, 1, 0, 0, 0), (1506, .ireturn, 1, 0, 0, 0), (1507, .aload_n 1, 1, 0, 0, 0), (1508, .invokevirtual 208, 3, 260, 0, 20), (1511, .aload_n 2, 1, 0, 0, 0), (1512, .invokevirtual 211, 3, 261, 0, 21), (1515, .if_icmp .eq 425, 3, 0, 0, 0), (1518, .iconst 0, 1, 0, 0, 0), (1519, .ireturn, 1, 0, 0, 0), (1520, .aload_n 1, 1, 0, 0, 0), (1521, .invokevirtual 212, 3, 264, 0, 20), (1524, .aload_n 2, 1, 0, 0, 0), (1525, .invokevirtual 215, 3, 266, 0, 21), (1528, .if_icmp .eq 412, 3, 0, 0, 0), (1531, .iconst 0, 1, 0, 0, 0), (1532, .ireturn, 1, 0, 0, 0), (1533, .aload_n 1, 1, 0, 0, 0), (1534, .aload_n 0, 1, 0, 0, 0), (1535, .iload_n 3, 1, 0, 0, 0), (1536, .iconst 1, 1, 0, 0, 0), (1537, .iadd, 1, 0, 0, 0), (1538, .iaload, 1, 0, 0, 0), (1539, .invokevirtual 216, 3, 267, 1, 20), (1542, .aload_n 2, 1, 0, 0, 0), (1543, .aload_n 0, 1, 0, 0, 0), (1544, .iload_n 3, 1, 0, 0, 0), (1545, .iconst 1, 1, 0, 0, 0), (1546, .iadd, 1, 0, 0, 0), (1547, .iaload, 1, 0, 0, 0), (1548, .invokevirtual 219, 3, 268, 1, 21), (1551, .if_icmp .eq 389, 3, 0, 0, 0), (1554, .iconst 0, 1, 0, 0, 0), (1555, .ireturn, 1, 0, 0, 0), (1556, .aload_n 1, 1, 0, 0, 0), (1557, .invokevirtual 220, 3, 272, 0, 20), (1560, .aload_n 2, 1, 0, 0, 0), (1561, .invokevirtual 223, 3, 273, 0, 21), (1564, .if_icmp .eq 376, 3, 0, 0, 0), (1567, .iconst 0, 1, 0, 0, 0), (1568, .ireturn, 1, 0, 0, 0), (1569, .aload_n 1, 1, 0, 0, 0), (1570, .aload_n 0, 1, 0, 0, 0), (1571, .iload_n 3, 1, 0, 0, 0), (1572, .iconst 1, 1, 0, 0, 0), (1573, .iadd, 1, 0, 0, 0), (1574, .iaload, 1, 0, 0, 0), (1575, .invokevirtual 224, 3, 274, 1, 20), (1578, .aload_n 2, 1, 0, 0, 0), (1579, .aload_n 0, 1, 0, 0, 0), (1580, .iload_n 3, 1, 0, 0, 0), (1581, .iconst 1, 1, 0, 0, 0), (1582, .iadd, 1, 0, 0, 0), (1583, .iaload, 1, 0, 0, 0), (1584, .invokevirtual 227, 3, 275, 1, 21), (1587, .if_icmp .eq 353, 3, 0, 0, 0), (1590, .iconst 0, 1, 0, 0, 0), (1591, .ireturn, 1, 0, 0, 0), (1592, .aload_n 1, 1, 0, 0, 0), (1593, .invokevirtual 228, 3, 284, 0, 20), (1596, .aload_n 2, 1, 0, 0, 0), (1597, .invokevirtual 231, 3, 288, 0, 21), (1600, .if_icmp .eq 340, 3, 0, 0, 0), (1603, .iconst 0, 1, 0, 0, 0), (1604, .ireturn, 1, 0, 0, 0), (1605, .aload_n 1, 1, 0, 0, 0), (1606, .aload_n 0, 1, 0, 0, 0), (1607, .iload_n 3, 1, 0, 0, 0), (1608, .iconst 1, 1, 0, 0, 0), (1609, .iadd, 1, 0, 0, 0), (1610, .iaload, 1, 0, 0, 0), (1611, .invokevirtual 232, 3, 290, 1, 20), (1614, .aload_n 2, 1, 0, 0, 0), (1615, .aload_n 0, 1, 0, 0, 0), (1616, .iload_n 3, 1, 0, 0, 0), (1617, .iconst 1, 1, 0, 0, 0), (1618, .iadd, 1, 0, 0, 0), (1619, .iaload, 1, 0, 0, 0), (1620, .invokevirtual 235, 3, 291, 1, 21), (1623, .if_icmp .eq 317, 3, 0, 0, 0), (1626, .iconst 0, 1, 0, 0, 0), (1627, .ireturn, 1, 0, 0, 0), (1628, .aload_n 1, 1, 0, 0, 0), (1629, .aload_n 0, 1, 0, 0, 0), (1630, .iload_n 3, 1, 0, 0, 0), (1631, .iconst 1, 1, 0, 0, 0), (1632, .iadd, 1, 0, 0, 0), (1633, .iaload, 1, 0, 0, 0), (1634, .invokevirtual 236, 3, 295, 1, 20), (1637, .aload_n 2, 1, 0, 0, 0), (1638, .aload_n 0, 1, 0, 0, 0), (1639, .iload_n 3, 1, 0, 0, 0), (1640, .iconst 1, 1, 0, 0, 0), (1641, .iadd, 1, 0, 0, 0), (1642, .iaload, 1, 0, 0, 0), (1643, .invokevirtual 239, 3, 296, 1, 21), (1646, .if_icmp .eq 294, 3, 0, 0, 0), (1649, .iconst 0, 1, 0, 0, 0), (1650, .ireturn, 1, 0, 0, 0), (1651, .aload_n 1, 1, 0, 0, 0), (1652, .invokevirtual 240, 3, 297, 0, 20), (1655, .aload_n 2, 1, 0, 0, 0), (1656, .invokevirtual 243, 3, 299, 0, 21), (1659, .if_icmp .eq 281, 3, 0, 0, 0), (1662, .iconst 0, 1, 0, 0, 0), (1663, .ireturn, 1, 0, 0, 0), (1664, .aload_n 1, 1, 0, 0, 0), (1665, .aload_n 0, 1, 0, 0, 0), (1666, .iload_n 3, 1, 0, 0, 0), (1667, .iconst 1, 1, 0, 0, 0), (1668, .iadd, 1, 0, 0, 0), (1669, .iaload, 1, 0, 0, 0), (1670, .invokevirtual 244, 3, 302, 1, 20), (1673, .aload_n 2, 1, 0, 0, 0), (1674, .aload_n 0, 1, 0, 0, 0), (1675, .iload_n 3, 1, 0, 0, 0), (1676, .iconst 1, 1, 0, 0, 0), (1677, .iadd, 1, 0, 0, 0), (1678, .iaload, 1, 0, 0, 0), (1679, .invokevirtual 248, 3, 304, 1, 21), (1682, .if_icmp .eq 258, 3, 0, 0, 0), (1685, .iconst 0, 1, 0, 0, 0)]
noncomputable def ij_t361_7 : List (Nat × ij_E) := [(1686, .ireturn, 1, 0, 0, 0), (1687, .aload_n 1, 1, 0, 0, 0), (1688, .invokevirtual 249, 3, 305, 0, 20), (1691, .aload_n 2, 1, 0, 0, 0), (1692, .invokevirtual 253, 3, 306, 0, 21), (1695, .if_icmp .eq 245, 3, 0, 0, 0), (1698, .iconst 0, 1, 0, 0, 0), (1699, .ireturn, 1, 0, 0, 0), (1700, .aload_n 1, 1, 0, 0, 0), (1701, .aload_n 0, 1, 0, 0, 0), (1702, .iload_n 3, 1, 0, 0, 0), (1703, .iconst 1, 1, 0, 0, 0), (1704, .iadd, 1, 0, 0, 0), (1705, .iaload, 1, 0, 0, 0), (1706, .invokevirtual 254, 3, 307, 1, 20), (1709, .aload_n 2, 1, 0, 0, 0), (1710, .aload_n 0, 1, 0, 0, 0), (1711, .iload_n 3, 1, 0, 0, 0), (1712, .iconst 1, 1, 0, 0, 0), (1713, .iadd, 1, 0, 0, 0), (1714, .iaload, 1, 0, 0, 0), (1715, .invokevirtual 257, 3, 308, 1, 21), (1718, .if_icmp .eq 222, 3, 0, 0, 0), (1721, .iconst 0, 1, 0, 0, 0), (1722, .ireturn, 1, 0, 0, 0), (1723, .aload_n 1, 1, 0, 0, 0), (1724, .aload_n 0, 1, 0, 0, 0), (1725, .iload_n 3, 1, 0, 0, 0), (1726, .iconst 1, 1, 0, 0, 0), (1727, .iadd, 1, 0, 0, 0), (1728, .iaload, 1, 0, 0, 0), (1729, .aload_n 0, 1, 0, 0, 0), (1730, .iload_n 3, 1, 0, 0, 0), (1731, .iconst 2, 1, 0, 0, 0), (1732, .iadd, 1, 0, 0, 0), (1733, .iaload, 1, 0, 0, 0), (1734, .invokevirtual 258, 3, 309, 2, 20), (1737, .aload_n 2, 1, 0, 0, 0), (1738, .aload_n 0, 1, 0, 0, 0), (1739, .iload_n 3, 1, 0, 0, 0), (1740, .iconst 1, 1, 0, 0, 0), (1741, .iadd, 1, 0, 0, 0), (1742, .iaload, 1, 0, 0, 0), (1743, .aload_n 0, 1, 0, 0, 0), (1744, .iload_n 3, 1, 0, 0, 0), (1745, .iconst 2, 1, 0, 0, 0), (1746, .iadd, 1, 0, 0, 0), (1747, .iaload, 1, 0, 0, 0), (1748, .invokevirtual 262, 3, 310, 2, 21), (1751, .if_icmp .eq 189, 3, 0, 0, 0), (1754, .iconst 0, 1, 0, 0, 0), (1755, .ireturn, 1, 0, 0, 0), (1756, .aload_n 1, 1, 0, 0, 0), (1757, .aload_n 0, 1, 0, 0, 0), (1758, .iload_n 3, 1, 0, 0, 0), (1759, .iconst 1, 1, 0, 0, 0), (1760, .iadd, 1, 0, 0, 0), (1761, .iaload, 1, 0, 0, 0), (1762, .invokevirtual 263, 3, 312, 1, 20), (1765, .aload_n 2, 1, 0, 0, 0), (1766, .aload_n 0, 1, 0, 0, 0), (1767, .iload_n 3, 1, 0, 0, 0), (1768, .iconst 1, 1, 0, 0, 0), (1769, .iadd, 1, 0, 0, 0), (1770, .iaload, 1, 0, 0, 0), (1771, .invokevirtual 266, 3, 313, 1, 21), (1774, .if_icmp .eq 166, 3, 0, 0, 0), (1777, .iconst 0, 1, 0, 0, 0), (1778, .ireturn, 1, 0, 0, 0), (1779, .aload_n 1, 1, 0, 0, 0), (1780, .aload_n 0, 1, 0, 0, 0), (1781, .iload_n 3, 1, 0, 0, 0), (1782, .iconst 1, 1, 0, 0, 0), (1783, .iadd, 1, 0, 0, 0), (1784, .iaload, 1, 0, 0, 0), (1785, .aload_n 0, 1, 0, 0, 0), (1786, .iload_n 3, 1, 0, 0, 0), (1787, .iconst 2, 1, 0, 0, 0), (1788, .iadd, 1, 0, 0, 0), (1789, .iaload, 1, 0, 0, 0), (1790, .invokevirtual 267, 3, 315, 2, 20), (1793, .aload_n 2, 1, 0, 0, 0), (1794, .aload_n 0, 1, 0, 0, 0), (1795, .iload_n 3, 1, 0, 0, 0), (1796, .iconst 1, 1, 0, 0, 0), (1797, .iadd, 1, 0, 0, 0), (1798, .iaload, 1, 0, 0, 0), (1799, .aload_n 0, 1, 0, 0, 0), (1800, .iload_n 3, 1, 0, 0, 0), (1801, .iconst 2, 1, 0, 0, 0), (1802, .iadd, 1, 0, 0, 0), (1803, .iaload, 1, 0, 0, 0), (1804, .invokevirtual 270, 3, 317, 2, 21), (1807, .if_icmp .eq 133, 3, 0, 0, 0), (1810, .iconst 0, 1, 0, 0, 0), (1811, .ireturn, 1, 0, 0, 0), (1812, .aload_n 1, 1, 0, 0, 0), (1813, .aload_n 0, 1, 0, 0, 0), (1814, .iload_n 3, 1, 0, 0, 0), (1815, .iconst 1, 1, 0, 0, 0), (1816, .iadd, 1, 0, 0, 0), (1817, .iaload, 1, 0, 0, 0), (1818, .invokevirtual 271, 3, 334, 1, 20), (1821, .aload_n 2, 1, 0, 0, 0), (1822, .aload_n 0, 1, 0, 0, 0), (1823, .iload_n 3, 1, 0, 0, 0), (1824, .iconst 1, 1, 0, 0, 0), (1825, .iadd, 1, 0, 0, 0), (1826, .iaload, 1, 0, 0, 0), (1827, .invokevirtual 274, 3, 346, 1, 21), (1830, .if_icmp .eq 110, 3, 0, 0, 0), (1833, .iconst 0, 1, 0, 0, 0), (1834, .ireturn, 1, 0, 0, 0), (1835, .aload_n 1, 1, 0, 0, 0), (1836, .aload_n 0, 1, 0, 0, 0), (1837, .iload_n 3, 1, 0, 0, 0), (1838, .iconst 1, 1, 0, 0, 0), (1839, .iadd, 1, 0, 0, 0), (1840, .iaload, 1, 0, 0, 0), (1841, .invokevirtual 275, 3, 348, 1, 20), (1844, .aload_n 2, 1, 0, 0, 0), (1845, .aload_n 0, 1, 0, 0, 0), (1846, .iload_n 3, 1, 0, 0, 0), (1847, .iconst 1, 1, 0, 0, 0), (1848, .iadd, 1, 0, 0, 0), (1849, .iaload, 1, 0, 0, 0), (1850, .invokevirtual 278, 3, 349, 1, 21), (1853, .if_icmp .eq 87, 3, 0, 0, 0), (1856, .iconst 0, 1, 0, 0, 0), (1857, .ireturn, 1, 0, 0, 0), (1858, .aload_n 1, 1, 0, 0, 0), (1859, .aload_n 0, 1, 0, 0, 0), (1860, .iload_n 3, 1, 0, 0, 0), (1861, .iconst 1, 1, 0, 0, 0), (1862, .iadd, 1, 0, 0, 0), (1863, .iaload, 1, 0, 0, 0), (1864, .invokevirtual 279, 3, 351, 1, 20), (1867, .aload_n 2, 1, 0, 0, 0), (1868, .aload_n 0, 1, 0, 0, 0), (1869, .iload_n 3, 1, 0, 0, 0), (1870, .iconst 1, 1, 0, 0, 0), (1871, .iadd, 1, 0, 0, 0), (1872, .iaload, 1, 0, 0, 0), (1873, .invokevirtual 282, 3, 352, 1, 21), (1876, .if_icmp .eq 64, 3, 0, 0, 0), (1879, .iconst 0, 1, 0, 0, 0), (1880, .ireturn, 1, 0, 0, 0), (1881, .aload_n 1, 1, 0, 0, 0), (1882, .aload_n 0, 1, 0, 0, 0), (1883, .iload_n 3, 1, 0, 0, 0)]
noncomputable def ij_t361_8 : List (Nat × ij_E) := [(1884, .iconst 1, 1, 0, 0, 0), (1885, .iadd, 1, 0, 0, 0), (1886, .iaload, 1, 0, 0, 0), (1887, .aload_n 0, 1, 0, 0, 0), (1888, .iload_n 3, 1, 0, 0, 0), (1889, .iconst 2, 1, 0, 0, 0), (1890, .iadd, 1, 0, 0, 0), (1891, .iaload, 1, 0, 0, 0), (1892, .invokevirtual 283, 3, 353, 2, 20), (1895, .aload_n 2, 1, 0, 0, 0), (1896, .aload_n 0, 1, 0, 0, 0), (1897, .iload_n 3, 1, 0, 0, 0), (1898, .iconst 1, 1, 0, 0, 0), (1899, .iadd, 1, 0, 0, 0), (1900, .iaload, 1, 0, 0, 0), (1901, .aload_n 0, 1, 0, 0, 0), (1902, .iload_n 3, 1, 0, 0, 0), (1903, .iconst 2, 1, 0, 0, 0), (1904, .iadd, 1, 0, 0, 0), (1905, .iaload, 1, 0, 0, 0), (1906, .invokevirtual 286, 3, 355, 2, 21), (1909, .if_icmp .eq 31, 3, 0, 0, 0), (1912, .iconst 0, 1, 0, 0, 0), (1913, .ireturn, 1, 0, 0, 0), (1914, .aload_n 1, 1, 0, 0, 0), (1915, .invokevirtual 287, 3, 356, 0, 20), (1918, .aload_n 2, 1, 0, 0, 0), (1919, .invokevirtual 290, 3, 358, 0, 21), (1922, .if_icmp .eq 18, 3, 0, 0, 0), (1925, .iconst 0, 1, 0, 0, 0), (1926, .ireturn, 1, 0, 0, 0), (1927, .aload_n 1, 1, 0, 0, 0), (1928, .invokevirtual 291, 3, 359, 0, 20), (1931, .aload_n 2, 1, 0, 0, 0), (1932, .invokevirtual 294, 3, 360, 0, 21), (1935, .if_icmp .eq 5, 3, 0, 0, 0), (1938, .iconst 0, 1, 0, 0, 0), (1939, .ireturn, 1, 0, 0, 0), (1940, .iinc 3 6, 3, 0, 0, 0), (1943, .goto (-1925), 3, 0, 0, 0), (1946, .iconst 1, 1, 0, 0, 0), (1947, .ireturn, 1, 0, 0, 0)]
noncomputable def ij_t361 : List (Nat × ij_E) := ij_t361_0 ++ (ij_t361_1 ++ (ij_t361_2 ++ (ij_t361_3 ++ (ij_t361_4 ++ (ij_t361_5 ++ (ij_t361_6 ++ (ij_t361_7 ++ (ij_t361_8))))))))
set_option maxRecDepth 4000 in
noncomputable def ij_tab (y : Nat) : List (Nat × ij_E) := (bif Nat.blt y 181 then (bif Nat.blt y 90 then (bif Nat.blt y 45 then (bif Nat.blt y 22 then (bif Nat.blt y 11 then (bif Nat.blt y 5 then (bif Nat.blt y 2 then (bif Nat.blt y 1 then ij_t0 else ij_t1) else (bif Nat.blt y 3 then ij_t2 else (bif Nat.blt y 4 then ij_t3 else ij_t4))) else (bif Nat.blt y 8 then (bif Nat.blt y 6 then ij_t5 else (bif Nat.blt y 7 then ij_t6 else ij_t7)) else (bif Nat.blt y 9 then ij_t8 else (bif Nat.blt y 10 then ij_t9 else ij_t10)))) else (bif Nat.blt y 16 then (bif Nat.blt y 13 then (bif Nat.blt y 12 then ij_t11 else ij_t12) else (bif Nat.blt y 14 then ij_t13 else (bif Nat.blt y 15 then ij_t14 else ij_t15))) else (bif Nat.blt y 19 then (bif Nat.blt y 17 then ij_t16 else (bif Nat.blt y 18 then ij_t17 else ij_t18)) else (bif Nat.blt y 20 then ij_t19 else (bif Nat.blt y 21 then ij_t20 else ij_t21))))) else (bif Nat.blt y 33 then (bif Nat.blt y 27 then (bif Nat.blt y 24 then (bif Nat.blt y 23 then ij_t22 else ij_t23) else (bif Nat.blt y 25 then ij_t24 else (bif Nat.blt y 26 then ij_t25 else ij_t26))) else (bif Nat.blt y 30 then (bif Nat.blt y 28 then ij_t27 else (bif Nat.blt y 29 then ij_t28 else ij_t29)) else (bif Nat.blt y 31 then ij_t30 else (bif Nat.blt y 32 then ij_t31 else ij_t32)))) else (bif Nat.blt y 39 then (bif Nat.blt y 36 then (bif Nat.blt y 34 then ij_t33 else (bif Nat.blt y 35 then ij_t34 else ij_t35)) else (bif Nat.blt y 37 then ij_t36 else (bif Nat.blt y 38 then ij_t37 else ij_t38))) else (bif Nat.blt y 42 then (bif Nat.blt y 40 then ij_t39 else (bif Nat.blt y 41 then ij_t40 else ij_t41)) else (bif Nat.blt y 43 then ij_t42 else (bif Nat.blt y 44 then ij_t43 else ij_t44)))))) else (bif Nat.blt y 67 then (bif Nat.blt y 56 then (bif Nat.blt y 50 then (bif Nat.blt y 47 then (bif Nat.blt y 46 then ij_t45 else ij_t46) else (bif Nat.blt y 48 then ij_t47 else (bif Nat.blt y 49 then ij_t48 else ij_t49))) else (bif Nat.blt y 53 then (bif Nat.blt y 51 then ij_t50 else (bif Nat.blt y 52 then ij_t51 else ij_t52)) else (bif Nat.blt y 54 then ij_t53 else (bif Nat.blt y 55 then ij_t54 else ij_t55)))) else (bif Nat.blt y 61 then (bif Nat.blt y 58 then (bif Nat.blt y 57 then ij_t56 else ij_t57) else (bif Nat.blt y 59 then ij_t58 else (bif Nat.blt y 60 then ij_t59 else ij_t60))) else (bif Nat.blt y 64 then (bif Nat.blt y 62 then ij_t61 else (bif Nat.blt y 63 then ij_t62 else ij_t63)) else (bif Nat.blt y 65 then ij_t64 else (bif Nat.blt y 66 then ij_t65 else ij_t66))))) else (bif Nat.blt y 78 then (bif Nat.blt y 72 then (bif Nat.blt y 69 then (bif Nat.blt y 68 then ij_t67 else ij_t68) else (bif Nat.blt y 70 then ij_t69 else (bif Nat.blt y 71 then ij_t70 else ij_t71))) else (bif Nat.blt y 75 then (bif Nat.blt y 73 then ij_t72 else (bif Nat.blt y 74 then ij_t73 else ij_t74)) else (bif Nat.blt y 76 then ij_t75 else (bif Nat.blt y 77 then ij_t76 else ij_t77)))) else (bif Nat.blt y 84 then (bif Nat.blt y 81 then (bif Nat.blt y 79 then ij_t78 else (bif Nat.blt y 80 then ij_t79 else ij_t80)) else (bif Nat.blt y 82 then ij_t81 else (bif Nat.blt y 83 then ij_t82 else ij_t83))) else (bif Nat.blt y 87 then (bif Nat.blt y 85 then ij_t84 else (bif Nat.blt y 86 then ij_t85 else ij_t86)) else (bif Nat.blt y 88 then ij_t87 else (bif Nat.blt y 89 then ij_t88 else ij_t89))))))) else (bif Nat.blt y 135 then (bif Nat.blt y 112 then (bif Nat.blt y 101 then (bif Nat.blt y 95 then (bif Nat.blt y 92 then (bif Nat.blt y 91 then ij_t90 else ij_t91) else (bif Nat.blt y 93 then ij_t92 else (bif Nat.blt y 94 then ij_t93 else ij_t94))) else (bif Nat.blt y 98 then (bif Nat.blt y 96 then ij_t95 else (bif Nat.blt y 97 then ij_t96 else ij_t97)) else (bif Nat.blt y 99 then ij_t98 else (bif Nat.blt y 100 then ij_t99 else ij_t100)))) else (bif Nat.blt y 106 then (bif Nat.blt y 103 then (bif Nat.blt y 102 then ij_t101 else ij_t102) else (bif Nat.blt y 104 then ij_t103 else (bif Nat.blt y 105 then ij_t104 else ij_t105))) else (bif Nat.blt y 109 then (bif Nat.blt y 107 then ij_t106 else (bif Nat.blt y 108 then ij_t107 else ij_t108)) else (bif Nat.blt y 110 then ij_t109 else (bif Nat.blt y 111 then ij_t110 else ij_t111))))) else (bif Nat.blt y 123 then (bif Nat.blt y 117 then (bif Nat.blt y 114 then (bif Nat.blt y 113 then ij_t112 else ij_t113) else (bif Nat.blt y 115 then ij_t114 else (bif Nat.blt y 116 then ij_t115 else ij_t116))) else (bif Nat.blt y 120 then (bif Nat.blt y 118 then ij_t117 else (bif Nat.blt y 119 then ij_t118 else ij_t119)) else (bif Nat.blt y 121 then ij_t120 else (bif Nat.blt y 122 then ij_t121 else ij_t122)))) else (bif Nat.blt y 129 then (bif Nat.blt y 126 then (bif Nat.blt y 124 then ij_t123 else (bif Nat.blt y 125 then ij_t124 else ij_t125)) else (bif Nat.blt y 127 then ij_t126 else (bif Nat.blt y 128 then ij_t127 else ij_t128))) else (bif Nat.blt y 132 then (bif Nat.blt y 130 then ij_t129 else (bif Nat.blt y 131 then ij_t130 else ij_t131)) else (bif Nat.blt y 133 then ij_t132 else (bif Nat.blt y 134 then ij_t133 else ij_t134)))))) else (bif Nat.blt y 158 then (bif Nat.blt y 146 then (bif Nat.blt y 140 then (bif Nat.blt y 137 then (bif Nat.blt y 136 then ij_t135 else ij_t136) else (bif Nat.blt y 138 then ij_t137 else (bif Nat.blt y 139 then ij_t138 else ij_t139))) else (bif Nat.blt y 143 then (bif Nat.blt y 141 then ij_t140 else (bif Nat.blt y 142 then ij_t141 else ij_t142)) else (bif Nat.blt y 144 then ij_t143 else (bif Nat.blt y 145 then ij_t144 else ij_t145)))) else (bif Nat.blt y 152 then (bif Nat.blt y 149 then (bif Nat.blt y 147 then ij_t146 else (bif Nat.blt y 148 then ij_t147 else ij_t148)) else (bif Nat.blt y 150 then ij_t149 else (bif Nat.blt y 151 then ij_t150 else ij_t151))) else (bif Nat.blt y 155 then (bif Nat.blt y 153 then ij_t152 else (bif Nat.blt y 154 then ij_t153 else ij_t154)) else (bif Nat.blt y 156 then ij_t155 else (bif Nat.blt y 157 then ij_t156 else ij_t157))))) else (bif Nat.blt y 169 then (bif Nat.blt y 163 then (bif Nat.blt y 160 then (bif Nat.blt y 159 then ij_t158 else ij_t159) else (bif Nat.blt y 161 then ij_t160 else (bif Nat.blt y 162 then ij_t161 else ij_t162))) else (bif Nat.blt y 166 then (bif Nat.blt y 164 then ij_t163 else (bif Nat.blt y 165 then ij_t164 else ij_t165)) else (bif Nat.blt y 167 then ij_t166 else (bif Nat.blt y 168 then ij_t167 else ij_t168)))) else (bif Nat.blt y 175 then (bif Nat.blt y 172 then (bif Nat.blt y 170 then ij_t169 else (bif Nat.blt y 171 then ij_t170 else ij_t171)) else (bif Nat.blt y 173 then ij_t172 else (bif Nat.blt y 174 then ij_t173 else ij_t174))) else (bif Nat.blt y 178 then (bif Nat.blt y 176 then ij_t175 else (bif Nat.blt y 177 then ij_t176 else ij_t177)) else (bif Nat.blt y 179 then ij_t178 else (bif Nat.blt y 180 then ij_t179 else ij_t180)))))))) else (bif Nat.blt y 271 then (bif Nat.blt y 226 then (bif Nat.blt y 203 then (bif Nat.blt y 192 then (bif Nat.blt y 186 then (bif Nat.blt y 183 then (bif Nat.blt y 182 then ij_t181 else ij_t182) else (bif Nat.blt y 184 then ij_t183 else (bif Nat.blt y 185 then ij_t184 else ij_t185))) else (bif Nat.blt y 189 then (bif Nat.blt y 187 then ij_t186 else (bif Nat.blt y 188 then ij_t187 else ij_t188)) else (bif Nat.blt y 190 then ij_t189 else (bif Nat.blt y 191 then ij_t190 else ij_t191)))) else (bif Nat.blt y 197 then (bif Nat.blt y 194 then (bif Nat.blt y 193 then ij_t192 else ij_t193) else (bif Nat.blt y 195 then ij_t194 else (bif Nat.blt y 196 then ij_t195 else ij_t196))) else (bif Nat.blt y 200 then (bif Nat.blt y 198 then ij_t197 else (bif Nat.blt y 199 then ij_t198 else ij_t199)) else (bif Nat.blt y 201 then ij_t200 else (bif Nat.blt y 202 then ij_t201 else ij_t202))))) else (bif Nat.blt y 214 then (bif Nat.blt y 208 then (bif Nat.blt y 205 then (bif Nat.blt y 204 then ij_t203 else ij_t204) else (bif Nat.blt y 206 then ij_t205 else (bif Nat.blt y 207 then ij_t206 else ij_t207))) else (bif Nat.blt y 211 then (bif Nat.blt y 209 then ij_t208 else (bif Nat.blt y 210 then ij_t209 else ij_t210)) else (bif Nat.blt y 212 then ij_t211 else (bif Nat.blt y 213 then ij_t212 else ij_t213)))) else (bif Nat.blt y 220 then (bif Nat.blt y 217 then (bif Nat.blt y 215 then ij_t214 else (bif Nat.blt y 216 then ij_t215 else ij_t216)) else (bif Nat.blt y 218 then ij_t217 else (bif Nat.blt y 219 then ij_t218 else ij_t219))) else (bif Nat.blt y 223 then (bif Nat.blt y 221 then ij_t220 else (bif Nat.blt y 222 then ij_t221 else ij_t222)) else (bif Nat.blt y 224 then ij_t223 else (bif Nat.blt y 225 then ij_t224 else ij_t225)))))) else (bif Nat.blt y 248 then (bif Nat.blt y 237 then (bif Nat.blt y 231 then (bif Nat.blt y 228 then (bif Nat.blt y 227 then ij_t226 else ij_t227) else (bif Nat.blt y 229 then ij_t228 else (bif Nat.blt y 230 then ij_t229 else ij_t230))) else (bif Nat.blt y 234 then (bif Nat.blt y 232 then ij_t231 else (bif Nat.blt y 233 then ij_t232 else ij_t233)) else (bif Nat.blt y 235 then ij_t234 else (bif Nat.blt y 236 then ij_t235 else ij_t236)))) else (bif Nat.blt y 242 then (bif Nat.blt y 239 then (bif Nat.blt y 238 then ij_t237 else ij_t238) else (bif Nat.blt y 240 then ij_t239 else (bif Nat.blt y 241 then ij_t240 else ij_t241))) else (bif Nat.blt y 245 then (bif Nat.blt y 243 then ij_t242 else (bif Nat.blt y 244 then ij_t243 else ij_t244)) else (bif Nat.blt y 246 then ij_t245 else (bif Nat.blt y 247 then ij_t246 else ij_t247))))) else (bif Nat.blt y 259 then (bif Nat.blt y 253 then (bif Nat.blt y 250 then (bif Nat.blt y 249 then ij_t248 else ij_t249) else (bif Nat.blt y 251 then ij_t250 else (bif Nat.blt y 252 then ij_t251 else ij_t252))) else (bif Nat.blt y 256 then (bif Nat.blt y 254 then ij_t253 else (bif Nat.blt y 255 then ij_t254 else ij_t255)) else (bif Nat.blt y 257 then ij_t256 else (bif Nat.blt y 258 then ij_t257 else ij_t258)))) else (bif Nat.blt y 265 then (bif Nat.blt y 262 then (bif Nat.blt y 260 then ij_t259 else (bif Nat.blt y 261 then ij_t260 else ij_t261)) else (bif Nat.blt y 263 then ij_t262 else (bif Nat.blt y 264 then ij_t263 else ij_t264))) else (bif Nat.blt y 268 then (bif Nat.blt y 266 then ij_t265 else (bif Nat.blt y 267 then ij_t266 else ij_t267)) else (bif Nat.blt y 269 then ij_t268 else (bif Nat.blt y 270 then ij_t269 else ij_t270))))))) else (bif Nat.blt y 316 then (bif Nat.blt y 293 then (bif Nat.blt y 282 then (bif Nat.blt y 276 then (bif Nat.blt y 273 then (bif Nat.blt y 272 then ij_t271 else ij_t272) else (bif Nat.blt y 274 then ij_t273 else (bif Nat.blt y 275 then ij_t274 else ij_t275))) else (bif Nat.blt y 279 then (bif Nat.blt y 277 then ij_t276 else (bif Nat.blt y 278 then ij_t277 else ij_t278)) else (bif Nat.blt y 280 then ij_t279 else (bif Nat.blt y 281 then ij_t280 else ij_t281)))) else (bif Nat.blt y 287 then (bif Nat.blt y 284 then (bif Nat.blt y 283 then ij_t282 else ij_t283) else (bif Nat.blt y 285 then ij_t284 else (bif Nat.blt y 286 then ij_t285 else ij_t286))) else (bif Nat.blt y 290 then (bif Nat.blt y 288 then ij_t287 else (bif Nat.blt y 289 then ij_t288 else ij_t289)) else (bif Nat.blt y 291 then ij_t290 else (bif Nat.blt y 292 then ij_t291 else ij_t292))))) else (bif Nat.blt y 304 then (bif Nat.blt y 298 then (bif Nat.blt y 295 then (bif Nat.blt y 294 then ij_t293 else ij_t294) else (bif Nat.blt y 296 then ij_t295 else (bif Nat.blt y 297 then ij_t296 else ij_t297))) else (bif Nat.blt y 301 then (bif Nat.blt y 299 then ij_t298 else (bif Nat.blt y 300 then ij_t299 else ij_t300)) else (bif Nat.blt y 302 then ij_t301 else (bif Nat.blt y 303 then ij_t302 else ij_t303)))) else (bif Nat.blt y 310 then (bif Nat.blt y 307 then (bif Nat.blt y 305 then ij_t304 else (bif Nat.blt y 306 then ij_t305 else ij_t306)) else (bif Nat.blt y 308 then ij_t307 else (bif Nat.blt y 309 then ij_t308 else ij_t309))) else (bif Nat.blt y 313 then (bif Nat.blt y 311 then ij_t310 else (bif Nat.blt y 312 then ij_t311 else ij_t312)) else (bif Nat.blt y 314 then ij_t313 else (bif Nat.blt y 315 then ij_t314 else ij_t315)))))) else (bif Nat.blt y 339 then (bif Nat.blt y 327 then (bif Nat.blt y 321 then (bif Nat.blt y 318 then (bif Nat.blt y 317 then ij_t316 else ij_t317) else (bif Nat.blt y 319 then ij_t318 else (bif Nat.blt y 320 then ij_t319 else ij_t320))) else (bif Nat.blt y 324 then (bif Nat.blt y 322 then ij_t321 else (bif Nat.blt y 323 then ij_t322 else ij_t323)) else (bif Nat.blt y 325 then ij_t324 else (bif Nat.blt y 326 then ij_t325 else ij_t326)))) else (bif Nat.blt y 333 then (bif Nat.blt y 330 then (bif Nat.blt y 328 then ij_t327 else (bif Nat.blt y 329 then ij_t328 else ij_t329)) else (bif Nat.blt y 331 then ij_t330 else (bif Nat.blt y 332 then ij_t331 else ij_t332))) else (bif Nat.blt y 336 then (bif Nat.blt y 334 then ij_t333 else (bif Nat.blt y 335 then ij_t334 else ij_t335)) else (bif Nat.blt y 337 then ij_t336 else (bif Nat.blt y 338 then ij_t337 else ij_t338))))) else (bif Nat.blt y 350 then (bif Nat.blt y 344 then (bif Nat.blt y 341 then (bif Nat.blt y 340 then ij_t339 else ij_t340) else (bif Nat.blt y 342 then ij_t341 else (bif Nat.blt y 343 then ij_t342 else ij_t343))) else (bif Nat.blt y 347 then (bif Nat.blt y 345 then ij_t344 else (bif Nat.blt y 346 then ij_t345 else ij_t346)) else (bif Nat.blt y 348 then ij_t347 else (bif Nat.blt y 349 then ij_t348 else ij_t349)))) else (bif Nat.blt y 356 then (bif Nat.blt y 353 then (bif Nat.blt y 351 then ij_t350 else (bif Nat.blt y 352 then ij_t351 else ij_t352)) else (bif Nat.blt y 354 then ij_t353 else (bif Nat.blt y 355 then ij_t354 else ij_t355))) else (bif Nat.blt y 359 then (bif Nat.blt y 357 then ij_t356 else (bif Nat.blt y 358 then ij_t357 else ij_t358)) else (bif Nat.blt y 360 then ij_t359 else (bif Nat.blt y 361 then ij_t360 else ij_t361)))))))))
set_option maxRecDepth 4000 in
noncomputable def ij_ml (y : Nat) : Nat := (bif Nat.blt y 181 then (bif Nat.blt y 90 then (bif Nat.blt y 45 then (bif Nat.blt y 22 then (bif Nat.blt y 11 then (bif Nat.blt y 5 then (bif Nat.blt y 2 then (bif Nat.blt y 1 then 1 else 1) else (bif Nat.blt y 3 then 1 else (bif Nat.blt y 4 then 1 else 3))) else (bif Nat.blt y 8 then (bif Nat.blt y 6 then 3 else (bif Nat.blt y 7 then 1 else 1)) else (bif Nat.blt y 9 then 8 else (bif Nat.blt y 10 then 2 else 1)))) else (bif Nat.blt y 16 then (bif Nat.blt y 13 then (bif Nat.blt y 12 then 2 else 1) else (bif Nat.blt y 14 then 2 else (bif Nat.blt y 15 then 1 else 1))) else (bif Nat.blt y 19 then (bif Nat.blt y 17 then 1 else (bif Nat.blt y 18 then 3 else 2)) else (bif Nat.blt y 20 then 3 else (bif Nat.blt y 21 then 1 else 1))))) else (bif Nat.blt y 33 then (bif Nat.blt y 27 then (bif Nat.blt y 24 then (bif Nat.blt y 23 then 1 else 1) else (bif Nat.blt y 25 then 1 else (bif Nat.blt y 26 then 1 else 1))) else (bif Nat.blt y 30 then (bif Nat.blt y 28 then 2 else (bif Nat.blt y 29 then 2 else 4)) else (bif Nat.blt y 31 then 1 else (bif Nat.blt y 32 then 5 else 1)))) else (bif Nat.blt y 39 then (bif Nat.blt y 36 then (bif Nat.blt y 34 then 2 else (bif Nat.blt y 35 then 5 else 1)) else (bif Nat.blt y 37 then 2 else (bif Nat.blt y 38 then 2 else 3))) else (bif Nat.blt y 42 then (bif Nat.blt y 40 then 4 else (bif Nat.blt y 41 then 7 else 3)) else (bif Nat.blt y 43 then 3 else (bif Nat.blt y 44 then 6 else 2)))))) else (bif Nat.blt y 67 then (bif Nat.blt y 56 then (bif Nat.blt y 50 then (bif Nat.blt y 47 then (bif Nat.blt y 46 then 2 else 5) else (bif Nat.blt y 48 then 3 else (bif Nat.blt y 49 then 3 else 8))) else (bif Nat.blt y 53 then (bif Nat.blt y 51 then 8 else (bif Nat.blt y 52 then 3 else 6)) else (bif Nat.blt y 54 then 3 else (bif Nat.blt y 55 then 6 else 2)))) else (bif Nat.blt y 61 then (bif Nat.blt y 58 then (bif Nat.blt y 57 then 2 else 1) else (bif Nat.blt y 59 then 1 else (bif Nat.blt y 60 then 1 else 1))) else (bif Nat.blt y 64 then (bif Nat.blt y 62 then 1 else (bif Nat.blt y 63 then 1 else 2)) else (bif Nat.blt y 65 then 2 else (bif Nat.blt y 66 then 1 else 1))))) else (bif Nat.blt y 78 then (bif Nat.blt y 72 then (bif Nat.blt y 69 then (bif Nat.blt y 68 then 1 else 3) else (bif Nat.blt y 70 then 2 else (bif Nat.blt y 71 then 2 else 2))) else (bif Nat.blt y 75 then (bif Nat.blt y 73 then 3 else (bif Nat.blt y 74 then 1 else 3)) else (bif Nat.blt y 76 then 4 else (bif Nat.blt y 77 then 2 else 2)))) else (bif Nat.blt y 84 then (bif Nat.blt y 81 then (bif Nat.blt y 79 then 2 else (bif Nat.blt y 80 then 1 else 1)) else (bif Nat.blt y 82 then 2 else (bif Nat.blt y 83 then 3 else 3))) else (bif Nat.blt y 87 then (bif Nat.blt y 85 then 1 else (bif Nat.blt y 86 then 2 else 3)) else (bif Nat.blt y 88 then 2 else (bif Nat.blt y 89 then 2 else 1))))))) else (bif Nat.blt y 135 then (bif Nat.blt y 112 then (bif Nat.blt y 101 then (bif Nat.blt y 95 then (bif Nat.blt y 92 then (bif Nat.blt y 91 then 2 else 3) else (bif Nat.blt y 93 then 2 else (bif Nat.blt y 94 then 1 else 1))) else (bif Nat.blt y 98 then (bif Nat.blt y 96 then 2 else (bif Nat.blt y 97 then 2 else 4)) else (bif Nat.blt y 99 then 2 else (bif Nat.blt y 100 then 7 else 2)))) else (bif Nat.blt y 106 then (bif Nat.blt y 103 then (bif Nat.blt y 102 then 3 else 4) else (bif Nat.blt y 104 then 2 else (bif Nat.blt y 105 then 2 else 2))) else (bif Nat.blt y 109 then (bif Nat.blt y 107 then 1 else (bif Nat.blt y 108 then 2 else 3)) else (bif Nat.blt y 110 then 1 else (bif Nat.blt y 111 then 3 else 3))))) else (bif Nat.blt y 123 then (bif Nat.blt y 117 then (bif Nat.blt y 114 then (bif Nat.blt y 113 then 3 else 7) else (bif Nat.blt y 115 then 1 else (bif Nat.blt y 116 then 2 else 2))) else (bif Nat.blt y 120 then (bif Nat.blt y 118 then 4 else (bif Nat.blt y 119 then 2 else 2)) else (bif Nat.blt y 121 then 1 else (bif Nat.blt y 122 then 1 else 1)))) else (bif Nat.blt y 129 then (bif Nat.blt y 126 then (bif Nat.blt y 124 then 3 else (bif Nat.blt y 125 then 2 else 5)) else (bif Nat.blt y 127 then 4 else (bif Nat.blt y 128 then 2 else 3))) else (bif Nat.blt y 132 then (bif Nat.blt y 130 then 3 else (bif Nat.blt y 131 then 3 else 7)) else (bif Nat.blt y 133 then 4 else (bif Nat.blt y 134 then 2 else 2)))))) else (bif Nat.blt y 158 then (bif Nat.blt y 146 then (bif Nat.blt y 140 then (bif Nat.blt y 137 then (bif Nat.blt y 136 then 2 else 5) else (bif Nat.blt y 138 then 1 else (bif Nat.blt y 139 then 2 else 4))) else (bif Nat.blt y 143 then (bif Nat.blt y 141 then 3 else (bif Nat.blt y 142 then 4 else 2)) else (bif Nat.blt y 144 then 2 else (bif Nat.blt y 145 then 3 else 2)))) else (bif Nat.blt y 152 then (bif Nat.blt y 149 then (bif Nat.blt y 147 then 1 else (bif Nat.blt y 148 then 2 else 2)) else (bif Nat.blt y 150 then 6 else (bif Nat.blt y 151 then 2 else 2))) else (bif Nat.blt y 155 then (bif Nat.blt y 153 then 2 else (bif Nat.blt y 154 then 2 else 2)) else (bif Nat.blt y 156 then 2 else (bif Nat.blt y 157 then 2 else 2))))) else (bif Nat.blt y 169 then (bif Nat.blt y 163 then (bif Nat.blt y 160 then (bif Nat.blt y 159 then 2 else 2) else (bif Nat.blt y 161 then 2 else (bif Nat.blt y 162 then 2 else 2))) else (bif Nat.blt y 166 then (bif Nat.blt y 164 then 3 else (bif Nat.blt y 165 then 5 else 3)) else (bif Nat.blt y 167 then 5 else (bif Nat.blt y 168 then 2 else 2)))) else (bif Nat.blt y 175 then (bif Nat.blt y 172 then (bif Nat.blt y 170 then 2 else (bif Nat.blt y 171 then 2 else 4)) else (bif Nat.blt y 173 then 3 else (bif Nat.blt y 174 then 4 else 2))) else (bif Nat.blt y 178 then (bif Nat.blt y 176 then 3 else (bif Nat.blt y 177 then 3 else 4)) else (bif Nat.blt y 179 then 2 else (bif Nat.blt y 180 then 2 else 3)))))))) else (bif Nat.blt y 271 then (bif Nat.blt y 226 then (bif Nat.blt y 203 then (bif Nat.blt y 192 then (bif Nat.blt y 186 then (bif Nat.blt y 183 then (bif Nat.blt y 182 then 2 else 2) else (bif Nat.blt y 184 then 2 else (bif Nat.blt y 185 then 2 else 2))) else (bif Nat.blt y 189 then (bif Nat.blt y 187 then 2 else (bif Nat.blt y 188 then 3 else 4)) else (bif Nat.blt y 190 then 1 else (bif Nat.blt y 191 then 2 else 3)))) else (bif Nat.blt y 197 then (bif Nat.blt y 194 then (bif Nat.blt y 193 then 5 else 3) else (bif Nat.blt y 195 then 1 else (bif Nat.blt y 196 then 3 else 3))) else (bif Nat.blt y 200 then (bif Nat.blt y 198 then 1 else (bif Nat.blt y 199 then 2 else 4)) else (bif Nat.blt y 201 then 2 else (bif Nat.blt y 202 then 2 else 2))))) else (bif Nat.blt y 214 then (bif Nat.blt y 208 then (bif Nat.blt y 205 then (bif Nat.blt y 204 then 5 else 2) else (bif Nat.blt y 206 then 6 else (bif Nat.blt y 207 then 2 else 3))) else (bif Nat.blt y 211 then (bif Nat.blt y 209 then 3 else (bif Nat.blt y 210 then 6 else 1)) else (bif Nat.blt y 212 then 4 else (bif Nat.blt y 213 then 1 else 2)))) else (bif Nat.blt y 220 then (bif Nat.blt y 217 then (bif Nat.blt y 215 then 3 else (bif Nat.blt y 216 then 3 else 6)) else (bif Nat.blt y 218 then 4 else (bif Nat.blt y 219 then 5 else 4))) else (bif Nat.blt y 223 then (bif Nat.blt y 221 then 3 else (bif Nat.blt y 222 then 4 else 2)) else (bif Nat.blt y 224 then 4 else (bif Nat.blt y 225 then 2 else 6)))))) else (bif Nat.blt y 248 then (bif Nat.blt y 237 then (bif Nat.blt y 231 then (bif Nat.blt y 228 then (bif Nat.blt y 227 then 4 else 5) else (bif Nat.blt y 229 then 2 else (bif Nat.blt y 230 then 2 else 2))) else (bif Nat.blt y 234 then (bif Nat.blt y 232 then 2 else (bif Nat.blt y 233 then 3 else 2)) else (bif Nat.blt y 235 then 2 else (bif Nat.blt y 236 then 2 else 2)))) else (bif Nat.blt y 242 then (bif Nat.blt y 239 then (bif Nat.blt y 238 then 4 else 3) else (bif Nat.blt y 240 then 1 else (bif Nat.blt y 241 then 7 else 3))) else (bif Nat.blt y 245 then (bif Nat.blt y 243 then 3 else (bif Nat.blt y 244 then 4 else 2)) else (bif Nat.blt y 246 then 3 else (bif Nat.blt y 247 then 3 else 2))))) else (bif Nat.blt y 259 then (bif Nat.blt y 253 then (bif Nat.blt y 250 then (bif Nat.blt y 249 then 3 else 5) else (bif Nat.blt y 251 then 4 else (bif Nat.blt y 252 then 6 else 4))) else (bif Nat.blt y 256 then (bif Nat.blt y 254 then 4 else (bif Nat.blt y 255 then 5 else 3)) else (bif Nat.blt y 257 then 5 else (bif Nat.blt y 258 then 5 else 1)))) else (bif Nat.blt y 265 then (bif Nat.blt y 262 then (bif Nat.blt y 260 then 1 else (bif Nat.blt y 261 then 7 else 4)) else (bif Nat.blt y 263 then 9 else (bif Nat.blt y 264 then 3 else 1))) else (bif Nat.blt y 268 then (bif Nat.blt y 266 then 6 else (bif Nat.blt y 267 then 1 else 2)) else (bif Nat.blt y 269 then 4 else (bif Nat.blt y 270 then 5 else 2))))))) else (bif Nat.blt y 316 then (bif Nat.blt y 293 then (bif Nat.blt y 282 then (bif Nat.blt y 276 then (bif Nat.blt y 273 then (bif Nat.blt y 272 then 8 else 1) else (bif Nat.blt y 274 then 7 else (bif Nat.blt y 275 then 4 else 4))) else (bif Nat.blt y 279 then (bif Nat.blt y 277 then 5 else (bif Nat.blt y 278 then 4 else 4)) else (bif Nat.blt y 280 then 6 else (bif Nat.blt y 281 then 5 else 5)))) else (bif Nat.blt y 287 then (bif Nat.blt y 284 then (bif Nat.blt y 283 then 6 else 1) else (bif Nat.blt y 285 then 1 else (bif Nat.blt y 286 then 2 else 3))) else (bif Nat.blt y 290 then (bif Nat.blt y 288 then 4 else (bif Nat.blt y 289 then 1 else 2)) else (bif Nat.blt y 291 then 2 else (bif Nat.blt y 292 then 2 else 5))))) else (bif Nat.blt y 304 then (bif Nat.blt y 298 then (bif Nat.blt y 295 then (bif Nat.blt y 294 then 6 else 5) else (bif Nat.blt y 296 then 3 else (bif Nat.blt y 297 then 6 else 6))) else (bif Nat.blt y 301 then (bif Nat.blt y 299 then 10 else (bif Nat.blt y 300 then 1 else 11)) else (bif Nat.blt y 302 then 7 else (bif Nat.blt y 303 then 20 else 11)))) else (bif Nat.blt y 310 then (bif Nat.blt y 307 then (bif Nat.blt y 305 then 3 else (bif Nat.blt y 306 then 4 else 1)) else (bif Nat.blt y 308 then 3 else (bif Nat.blt y 309 then 2 else 9))) else (bif Nat.blt y 313 then (bif Nat.blt y 311 then 8 else (bif Nat.blt y 312 then 2 else 7)) else (bif Nat.blt y 314 then 3 else (bif Nat.blt y 315 then 5 else 7)))))) else (bif Nat.blt y 339 then (bif Nat.blt y 327 then (bif Nat.blt y 321 then (bif Nat.blt y 318 then (bif Nat.blt y 317 then 5 else 6) else (bif Nat.blt y 319 then 1 else (bif Nat.blt y 320 then 2 else 2))) else (bif Nat.blt y 324 then (bif Nat.blt y 322 then 2 else (bif Nat.blt y 323 then 2 else 3)) else (bif Nat.blt y 325 then 3 else (bif Nat.blt y 326 then 2 else 2)))) else (bif Nat.blt y 333 then (bif Nat.blt y 330 then (bif Nat.blt y 328 then 2 else (bif Nat.blt y 329 then 4 else 3)) else (bif Nat.blt y 331 then 3 else (bif Nat.blt y 332 then 3 else 3))) else (bif Nat.blt y 336 then (bif Nat.blt y 334 then 3 else (bif Nat.blt y 335 then 2 else 3)) else (bif Nat.blt y 337 then 2 else (bif Nat.blt y 338 then 2 else 2))))) else (bif Nat.blt y 350 then (bif Nat.blt y 344 then (bif Nat.blt y 341 then (bif Nat.blt y 340 then 2 else 3) else (bif Nat.blt y 342 then 2 else (bif Nat.blt y 343 then 5 else 5))) else (bif Nat.blt y 347 then (bif Nat.blt y 345 then 5 else (bif Nat.blt y 346 then 5 else 3)) else (bif Nat.blt y 348 then 2 else (bif Nat.blt y 349 then 2 else 2)))) else (bif Nat.blt y 356 then (bif Nat.blt y 353 then (bif Nat.blt y 351 then 2 else (bif Nat.blt y 352 then 2 else 2)) else (bif Nat.blt y 354 then 6 else (bif Nat.blt y 355 then 3 else 6))) else (bif Nat.blt y 359 then (bif Nat.blt y 357 then 1 else (bif Nat.blt y 358 then 4 else 1)) else (bif Nat.blt y 360 then 1 else (bif Nat.blt y 361 then 1 else 4)))))))))
set_option maxRecDepth 4000 in
noncomputable def ij_rk (y : Nat) : Nat := (bif Nat.blt y 181 then (bif Nat.blt y 90 then (bif Nat.blt y 45 then (bif Nat.blt y 22 then (bif Nat.blt y 11 then (bif Nat.blt y 5 then (bif Nat.blt y 2 then (bif Nat.blt y 1 then 0 else 0) else (bif Nat.blt y 3 then 0 else (bif Nat.blt y 4 then 3 else 1))) else (bif Nat.blt y 8 then (bif Nat.blt y 6 then 1 else (bif Nat.blt y 7 then 2 else 2)) else (bif Nat.blt y 9 then 2 else (bif Nat.blt y 10 then 0 else 0)))) else (bif Nat.blt y 16 then (bif Nat.blt y 13 then (bif Nat.blt y 12 then 0 else 0) else (bif Nat.blt y 14 then 0 else (bif Nat.blt y 15 then 0 else 0))) else (bif Nat.blt y 19 then (bif Nat.blt y 17 then 0 else (bif Nat.blt y 18 then 0 else 0)) else (bif Nat.blt y 20 then 0 else (bif Nat.blt y 21 then 0 else 1))))) else (bif Nat.blt y 33 then (bif Nat.blt y 27 then (bif Nat.blt y 24 then (bif Nat.blt y 23 then 1 else 2) else (bif Nat.blt y 25 then 2 else (bif Nat.blt y 26 then 2 else 2))) else (bif Nat.blt y 30 then (bif Nat.blt y 28 then 6 else (bif Nat.blt y 29 then 3 else 0)) else (bif Nat.blt y 31 then 3 else (bif Nat.blt y 32 then 3 else 3)))) else (bif Nat.blt y 39 then (bif Nat.blt y 36 then (bif Nat.blt y 34 then 3 else (bif Nat.blt y 35 then 3 else 3)) else (bif Nat.blt y 37 then 3 else (bif Nat.blt y 38 then 1 else 2))) else (bif Nat.blt y 42 then (bif Nat.blt y 40 then 0 else (bif Nat.blt y 41 then 3 else 1)) else (bif Nat.blt y 43 then 2 else (bif Nat.blt y 44 then 3 else 1)))))) else (bif Nat.blt y 67 then (bif Nat.blt y 56 then (bif Nat.blt y 50 then (bif Nat.blt y 47 then (bif Nat.blt y 46 then 2 else 2) else (bif Nat.blt y 48 then 2 else (bif Nat.blt y 49 then 3 else 3))) else (bif Nat.blt y 53 then (bif Nat.blt y 51 then 3 else (bif Nat.blt y 52 then 0 else 1)) else (bif Nat.blt y 54 then 0 else (bif Nat.blt y 55 then 1 else 0)))) else (bif Nat.blt y 61 then (bif Nat.blt y 58 then (bif Nat.blt y 57 then 1 else 3) else (bif Nat.blt y 59 then 3 else (bif Nat.blt y 60 then 0 else 3))) else (bif Nat.blt y 64 then (bif Nat.blt y 62 then 0 else (bif Nat.blt y 63 then 3 else 3)) else (bif Nat.blt y 65 then 3 else (bif Nat.blt y 66 then 4 else 1))))) else (bif Nat.blt y 78 then (bif Nat.blt y 72 then (bif Nat.blt y 69 then (bif Nat.blt y 68 then 3 else 1) else (bif Nat.blt y 70 then 0 else (bif Nat.blt y 71 then 5 else 5))) else (bif Nat.blt y 75 then (bif Nat.blt y 73 then 3 else (bif Nat.blt y 74 then 1 else 3)) else (bif Nat.blt y 76 then 3 else (bif Nat.blt y 77 then 3 else 3)))) else (bif Nat.blt y 84 then (bif Nat.blt y 81 then (bif Nat.blt y 79 then 3 else (bif Nat.blt y 80 then 1 else 1)) else (bif Nat.blt y 82 then 1 else (bif Nat.blt y 83 then 3 else 0))) else (bif Nat.blt y 87 then (bif Nat.blt y 85 then 3 else (bif Nat.blt y 86 then 3 else 3)) else (bif Nat.blt y 88 then 0 else (bif Nat.blt y 89 then 1 else 1))))))) else (bif Nat.blt y 135 then (bif Nat.blt y 112 then (bif Nat.blt y 101 then (bif Nat.blt y 95 then (bif Nat.blt y 92 then (bif Nat.blt y 91 then 1 else 1) else (bif Nat.blt y 93 then 1 else (bif Nat.blt y 94 then 3 else 3))) else (bif Nat.blt y 98 then (bif Nat.blt y 96 then 1 else (bif Nat.blt y 97 then 0 else 3)) else (bif Nat.blt y 99 then 1 else (bif Nat.blt y 100 then 1 else 3)))) else (bif Nat.blt y 106 then (bif Nat.blt y 103 then (bif Nat.blt y 102 then 3 else 3) else (bif Nat.blt y 104 then 3 else (bif Nat.blt y 105 then 3 else 3))) else (bif Nat.blt y 109 then (bif Nat.blt y 107 then 1 else (bif Nat.blt y 108 then 1 else 3)) else (bif Nat.blt y 110 then 3 else (bif Nat.blt y 111 then 0 else 1))))) else (bif Nat.blt y 123 then (bif Nat.blt y 117 then (bif Nat.blt y 114 then (bif Nat.blt y 113 then 1 else 0) else (bif Nat.blt y 115 then 0 else (bif Nat.blt y 116 then 1 else 1))) else (bif Nat.blt y 120 then (bif Nat.blt y 118 then 1 else (bif Nat.blt y 119 then 3 else 3)) else (bif Nat.blt y 121 then 1 else (bif Nat.blt y 122 then 1 else 1)))) else (bif Nat.blt y 129 then (bif Nat.blt y 126 then (bif Nat.blt y 124 then 3 else (bif Nat.blt y 125 then 1 else 3)) else (bif Nat.blt y 127 then 3 else (bif Nat.blt y 128 then 0 else 1))) else (bif Nat.blt y 132 then (bif Nat.blt y 130 then 3 else (bif Nat.blt y 131 then 3 else 3)) else (bif Nat.blt y 133 then 1 else (bif Nat.blt y 134 then 1 else 1)))))) else (bif Nat.blt y 158 then (bif Nat.blt y 146 then (bif Nat.blt y 140 then (bif Nat.blt y 137 then (bif Nat.blt y 136 then 1 else 0) else (bif Nat.blt y 138 then 6 else (bif Nat.blt y 139 then 1 else 1))) else (bif Nat.blt y 143 then (bif Nat.blt y 141 then 1 else (bif Nat.blt y 142 then 2 else 1)) else (bif Nat.blt y 144 then 1 else (bif Nat.blt y 145 then 1 else 1)))) else (bif Nat.blt y 152 then (bif Nat.blt y 149 then (bif Nat.blt y 147 then 3 else (bif Nat.blt y 148 then 1 else 1)) else (bif Nat.blt y 150 then 3 else (bif Nat.blt y 151 then 1 else 3))) else (bif Nat.blt y 155 then (bif Nat.blt y 153 then 1 else (bif Nat.blt y 154 then 3 else 1)) else (bif Nat.blt y 156 then 3 else (bif Nat.blt y 157 then 1 else 1))))) else (bif Nat.blt y 169 then (bif Nat.blt y 163 then (bif Nat.blt y 160 then (bif Nat.blt y 159 then 3 else 1) else (bif Nat.blt y 161 then 1 else (bif Nat.blt y 162 then 1 else 1))) else (bif Nat.blt y 166 then (bif Nat.blt y 164 then 1 else (bif Nat.blt y 165 then 1 else 1)) else (bif Nat.blt y 167 then 1 else (bif Nat.blt y 168 then 1 else 1)))) else (bif Nat.blt y 175 then (bif Nat.blt y 172 then (bif Nat.blt y 170 then 3 else (bif Nat.blt y 171 then 1 else 1)) else (bif Nat.blt y 173 then 1 else (bif Nat.blt y 174 then 1 else 1))) else (bif Nat.blt y 178 then (bif Nat.blt y 176 then 3 else (bif Nat.blt y 177 then 1 else 1)) else (bif Nat.blt y 179 then 3 else (bif Nat.blt y 180 then 1 else 3)))))))) else (bif Nat.blt y 271 then (bif Nat.blt y 226 then (bif Nat.blt y 203 then (bif Nat.blt y 192 then (bif Nat.blt y 186 then (bif Nat.blt y 183 then (bif Nat.blt y 182 then 1 else 3) else (bif Nat.blt y 184 then 1 else (bif Nat.blt y 185 then 3 else 1))) else (bif Nat.blt y 189 then (bif Nat.blt y 187 then 1 else (bif Nat.blt y 188 then 1 else 2)) else (bif Nat.blt y 190 then 1 else (bif Nat.blt y 191 then 1 else 0)))) else (bif Nat.blt y 197 then (bif Nat.blt y 194 then (bif Nat.blt y 193 then 0 else 1) else (bif Nat.blt y 195 then 1 else (bif Nat.blt y 196 then 1 else 1))) else (bif Nat.blt y 200 then (bif Nat.blt y 198 then 1 else (bif Nat.blt y 199 then 1 else 1)) else (bif Nat.blt y 201 then 1 else (bif Nat.blt y 202 then 1 else 1))))) else (bif Nat.blt y 214 then (bif Nat.blt y 208 then (bif Nat.blt y 205 then (bif Nat.blt y 204 then 1 else 1) else (bif Nat.blt y 206 then 1 else (bif Nat.blt y 207 then 1 else 1))) else (bif Nat.blt y 211 then (bif Nat.blt y 209 then 1 else (bif Nat.blt y 210 then 2 else 1)) else (bif Nat.blt y 212 then 1 else (bif Nat.blt y 213 then 1 else 1)))) else (bif Nat.blt y 220 then (bif Nat.blt y 217 then (bif Nat.blt y 215 then 1 else (bif Nat.blt y 216 then 2 else 1)) else (bif Nat.blt y 218 then 3 else (bif Nat.blt y 219 then 1 else 1))) else (bif Nat.blt y 223 then (bif Nat.blt y 221 then 1 else (bif Nat.blt y 222 then 1 else 1)) else (bif Nat.blt y 224 then 1 else (bif Nat.blt y 225 then 1 else 1)))))) else (bif Nat.blt y 248 then (bif Nat.blt y 237 then (bif Nat.blt y 231 then (bif Nat.blt y 228 then (bif Nat.blt y 227 then 1 else 1) else (bif Nat.blt y 229 then 1 else (bif Nat.blt y 230 then 1 else 1))) else (bif Nat.blt y 234 then (bif Nat.blt y 232 then 1 else (bif Nat.blt y 233 then 1 else 1)) else (bif Nat.blt y 235 then 1 else (bif Nat.blt y 236 then 1 else 1)))) else (bif Nat.blt y 242 then (bif Nat.blt y 239 then (bif Nat.blt y 238 then 1 else 1) else (bif Nat.blt y 240 then 1 else (bif Nat.blt y 241 then 1 else 0))) else (bif Nat.blt y 245 then (bif Nat.blt y 243 then 1 else (bif Nat.blt y 244 then 1 else 1)) else (bif Nat.blt y 246 then 1 else (bif Nat.blt y 247 then 1 else 1))))) else (bif Nat.blt y 259 then (bif Nat.blt y 253 then (bif Nat.blt y 250 then (bif Nat.blt y 249 then 1 else 1) else (bif Nat.blt y 251 then 1 else (bif Nat.blt y 252 then 1 else 1))) else (bif Nat.blt y 256 then (bif Nat.blt y 254 then 1 else (bif Nat.blt y 255 then 1 else 1)) else (bif Nat.blt y 257 then 1 else (bif Nat.blt y 258 then 1 else 1)))) else (bif Nat.blt y 265 then (bif Nat.blt y 262 then (bif Nat.blt y 260 then 1 else (bif Nat.blt y 261 then 1 else 1)) else (bif Nat.blt y 263 then 2 else (bif Nat.blt y 264 then 0 else 1))) else (bif Nat.blt y 268 then (bif Nat.blt y 266 then 1 else (bif Nat.blt y 267 then 1 else 1)) else (bif Nat.blt y 269 then 1 else (bif Nat.blt y 270 then 1 else 1))))))) else (bif Nat.blt y 316 then (bif Nat.blt y 293 then (bif Nat.blt y 282 then (bif Nat.blt y 276 then (bif Nat.blt y 273 then (bif Nat.blt y 272 then 1 else 1) else (bif Nat.blt y 274 then 1 else (bif Nat.blt y 275 then 1 else 1))) else (bif Nat.blt y 279 then (bif Nat.blt y 277 then 1 else (bif Nat.blt y 278 then 1 else 1)) else (bif Nat.blt y 280 then 1 else (bif Nat.blt y 281 then 0 else 0)))) else (bif Nat.blt y 287 then (bif Nat.blt y 284 then (bif Nat.blt y 283 then 0 else 1) else (bif Nat.blt y 285 then 1 else (bif Nat.blt y 286 then 0 else 1))) else (bif Nat.blt y 290 then (bif Nat.blt y 288 then 3 else (bif Nat.blt y 289 then 1 else 1)) else (bif Nat.blt y 291 then 1 else (bif Nat.blt y 292 then 1 else 1))))) else (bif Nat.blt y 304 then (bif Nat.blt y 298 then (bif Nat.blt y 295 then (bif Nat.blt y 294 then 2 else 1) else (bif Nat.blt y 296 then 1 else (bif Nat.blt y 297 then 1 else 1))) else (bif Nat.blt y 301 then (bif Nat.blt y 299 then 1 else (bif Nat.blt y 300 then 1 else 2)) else (bif Nat.blt y 302 then 3 else (bif Nat.blt y 303 then 3 else 3)))) else (bif Nat.blt y 310 then (bif Nat.blt y 307 then (bif Nat.blt y 305 then 3 else (bif Nat.blt y 306 then 3 else 3)) else (bif Nat.blt y 308 then 3 else (bif Nat.blt y 309 then 3 else 3))) else (bif Nat.blt y 313 then (bif Nat.blt y 311 then 3 else (bif Nat.blt y 312 then 1 else 1)) else (bif Nat.blt y 314 then 1 else (bif Nat.blt y 315 then 3 else 1)))))) else (bif Nat.blt y 339 then (bif Nat.blt y 327 then (bif Nat.blt y 321 then (bif Nat.blt y 318 then (bif Nat.blt y 317 then 3 else 1) else (bif Nat.blt y 319 then 1 else (bif Nat.blt y 320 then 3 else 0))) else (bif Nat.blt y 324 then (bif Nat.blt y 322 then 0 else (bif Nat.blt y 323 then 3 else 3)) else (bif Nat.blt y 325 then 0 else (bif Nat.blt y 326 then 3 else 1)))) else (bif Nat.blt y 333 then (bif Nat.blt y 330 then (bif Nat.blt y 328 then 0 else (bif Nat.blt y 329 then 0 else 3)) else (bif Nat.blt y 331 then 0 else (bif Nat.blt y 332 then 0 else 0))) else (bif Nat.blt y 336 then (bif Nat.blt y 334 then 0 else (bif Nat.blt y 335 then 1 else 3)) else (bif Nat.blt y 337 then 3 else (bif Nat.blt y 338 then 3 else 1))))) else (bif Nat.blt y 350 then (bif Nat.blt y 344 then (bif Nat.blt y 341 then (bif Nat.blt y 340 then 3 else 3) else (bif Nat.blt y 342 then 0 else (bif Nat.blt y 343 then 1 else 3))) else (bif Nat.blt y 347 then (bif Nat.blt y 345 then 1 else (bif Nat.blt y 346 then 0 else 1)) else (bif Nat.blt y 348 then 1 else (bif Nat.blt y 349 then 1 else 1)))) else (bif Nat.blt y 356 then (bif Nat.blt y 353 then (bif Nat.blt y 351 then 1 else (bif Nat.blt y 352 then 1 else 1)) else (bif Nat.blt y 354 then 3 else (bif Nat.blt y 355 then 0 else 3))) else (bif Nat.blt y 359 then (bif Nat.blt y 357 then 1 else (bif Nat.blt y 358 then 0 else 1)) else (bif Nat.blt y 360 then 1 else (bif Nat.blt y 361 then 1 else 3)))))))))
set_option maxRecDepth 4000 in
noncomputable def ij_ow (y : Nat) : Nat := (bif Nat.blt y 181 then (bif Nat.blt y 90 then (bif Nat.blt y 45 then (bif Nat.blt y 22 then (bif Nat.blt y 11 then (bif Nat.blt y 5 then (bif Nat.blt y 2 then (bif Nat.blt y 1 then 8 else 2) else (bif Nat.blt y 3 then 4 else (bif Nat.blt y 4 then 10 else 18))) else (bif Nat.blt y 8 then (bif Nat.blt y 6 then 4 else (bif Nat.blt y 7 then 12 else 12)) else (bif Nat.blt y 9 then 4 else (bif Nat.blt y 10 then 4 else 4)))) else (bif Nat.blt y 16 then (bif Nat.blt y 13 then (bif Nat.blt y 12 then 5 else 6) else (bif Nat.blt y 14 then 7 else (bif Nat.blt y 15 then 3 else 0))) else (bif Nat.blt y 19 then (bif Nat.blt y 17 then 9 else (bif Nat.blt y 18 then 1 else 10)) else (bif Nat.blt y 20 then 11 else (bif Nat.blt y 21 then 11 else 10))))) else (bif Nat.blt y 33 then (bif Nat.blt y 27 then (bif Nat.blt y 24 then (bif Nat.blt y 23 then 11 else 10) else (bif Nat.blt y 25 then 11 else (bif Nat.blt y 26 then 10 else 11))) else (bif Nat.blt y 30 then (bif Nat.blt y 28 then 10 else (bif Nat.blt y 29 then 10 else 8)) else (bif Nat.blt y 31 then 10 else (bif Nat.blt y 32 then 10 else 11)))) else (bif Nat.blt y 39 then (bif Nat.blt y 36 then (bif Nat.blt y 34 then 11 else (bif Nat.blt y 35 then 11 else 8)) else (bif Nat.blt y 37 then 8 else (bif Nat.blt y 38 then 10 else 8))) else (bif Nat.blt y 42 then (bif Nat.blt y 40 then 8 else (bif Nat.blt y 41 then 10 else 11)) else (bif Nat.blt y 43 then 11 else (bif Nat.blt y 44 then 11 else 10)))))) else (bif Nat.blt y 67 then (bif Nat.blt y 56 then (bif Nat.blt y 50 then (bif Nat.blt y 47 then (bif Nat.blt y 46 then 8 else 10) else (bif Nat.blt y 48 then 11 else (bif Nat.blt y 49 then 8 else 10))) else (bif Nat.blt y 53 then (bif Nat.blt y 51 then 11 else (bif Nat.blt y 52 then 2 else 10)) else (bif Nat.blt y 54 then 11 else (bif Nat.blt y 55 then 11 else 2)))) else (bif Nat.blt y 61 then (bif Nat.blt y 58 then (bif Nat.blt y 57 then 2 else 2) else (bif Nat.blt y 59 then 2 else (bif Nat.blt y 60 then 2 else 2))) else (bif Nat.blt y 64 then (bif Nat.blt y 62 then 2 else (bif Nat.blt y 63 then 2 else 2)) else (bif Nat.blt y 65 then 2 else (bif Nat.blt y 66 then 14 else 14))))) else (bif Nat.blt y 78 then (bif Nat.blt y 72 then (bif Nat.blt y 69 then (bif Nat.blt y 68 then 14 else 16) else (bif Nat.blt y 70 then 14 else (bif Nat.blt y 71 then 15 else 14))) else (bif Nat.blt y 75 then (bif Nat.blt y 73 then 2 else (bif Nat.blt y 74 then 5 else 12)) else (bif Nat.blt y 76 then 5 else (bif Nat.blt y 77 then 2 else 4)))) else (bif Nat.blt y 84 then (bif Nat.blt y 81 then (bif Nat.blt y 79 then 5 else (bif Nat.blt y 80 then 10 else 4)) else (bif Nat.blt y 82 then 10 else (bif Nat.blt y 83 then 2 else 4))) else (bif Nat.blt y 87 then (bif Nat.blt y 85 then 2 else (bif Nat.blt y 86 then 5 else 5)) else (bif Nat.blt y 88 then 4 else (bif Nat.blt y 89 then 17 else 4))))))) else (bif Nat.blt y 135 then (bif Nat.blt y 112 then (bif Nat.blt y 101 then (bif Nat.blt y 95 then (bif Nat.blt y 92 then (bif Nat.blt y 91 then 10 else 10) else (bif Nat.blt y 93 then 11 else (bif Nat.blt y 94 then 11 else 11))) else (bif Nat.blt y 98 then (bif Nat.blt y 96 then 18 else (bif Nat.blt y 97 then 11 else 11)) else (bif Nat.blt y 99 then 11 else (bif Nat.blt y 100 then 11 else 11)))) else (bif Nat.blt y 106 then (bif Nat.blt y 103 then (bif Nat.blt y 102 then 11 else 11) else (bif Nat.blt y 104 then 11 else (bif Nat.blt y 105 then 11 else 11))) else (bif Nat.blt y 109 then (bif Nat.blt y 107 then 11 else (bif Nat.blt y 108 then 11 else 11)) else (bif Nat.blt y 110 then 11 else (bif Nat.blt y 111 then 11 else 11))))) else (bif Nat.blt y 123 then (bif Nat.blt y 117 then (bif Nat.blt y 114 then (bif Nat.blt y 113 then 11 else 11) else (bif Nat.blt y 115 then 11 else (bif Nat.blt y 116 then 11 else 11))) else (bif Nat.blt y 120 then (bif Nat.blt y 118 then 11 else (bif Nat.blt y 119 then 6 else 7)) else (bif Nat.blt y 121 then 7 else (bif Nat.blt y 122 then 7 else 7)))) else (bif Nat.blt y 129 then (bif Nat.blt y 126 then (bif Nat.blt y 124 then 7 else (bif Nat.blt y 125 then 7 else 7)) else (bif Nat.blt y 127 then 7 else (bif Nat.blt y 128 then 6 else 10))) else (bif Nat.blt y 132 then (bif Nat.blt y 130 then 11 else (bif Nat.blt y 131 then 11 else 11)) else (bif Nat.blt y 133 then 11 else (bif Nat.blt y 134 then 10 else 11)))))) else (bif Nat.blt y 158 then (bif Nat.blt y 146 then (bif Nat.blt y 140 then (bif Nat.blt y 137 then (bif Nat.blt y 136 then 4 else 3) else (bif Nat.blt y 138 then 10 else (bif Nat.blt y 139 then 3 else 3))) else (bif Nat.blt y 143 then (bif Nat.blt y 141 then 3 else (bif Nat.blt y 142 then 3 else 10)) else (bif Nat.blt y 144 then 11 else (bif Nat.blt y 145 then 11 else 11)))) else (bif Nat.blt y 152 then (bif Nat.blt y 149 then (bif Nat.blt y 147 then 10 else (bif Nat.blt y 148 then 4 else 10)) else (bif Nat.blt y 150 then 11 else (bif Nat.blt y 151 then 11 else 10))) else (bif Nat.blt y 155 then (bif Nat.blt y 153 then 10 else (bif Nat.blt y 154 then 11 else 11)) else (bif Nat.blt y 156 then 4 else (bif Nat.blt y 157 then 10 else 10))))) else (bif Nat.blt y 169 then (bif Nat.blt y 163 then (bif Nat.blt y 160 then (bif Nat.blt y 159 then 11 else 11) else (bif Nat.blt y 161 then 11 else (bif Nat.blt y 162 then 10 else 11))) else (bif Nat.blt y 166 then (bif Nat.blt y 164 then 10 else (bif Nat.blt y 165 then 11 else 11)) else (bif Nat.blt y 167 then 12 else (bif Nat.blt y 168 then 10 else 10)))) else (bif Nat.blt y 175 then (bif Nat.blt y 172 then (bif Nat.blt y 170 then 11 else (bif Nat.blt y 171 then 11 else 3)) else (bif Nat.blt y 173 then 10 else (bif Nat.blt y 174 then 11 else 11))) else (bif Nat.blt y 178 then (bif Nat.blt y 176 then 10 else (bif Nat.blt y 177 then 10 else 11)) else (bif Nat.blt y 179 then 4 else (bif Nat.blt y 180 then 10 else 11)))))))) else (bif Nat.blt y 271 then (bif Nat.blt y 226 then (bif Nat.blt y 203 then (bif Nat.blt y 192 then (bif Nat.blt y 186 then (bif Nat.blt y 183 then (bif Nat.blt y 182 then 11 else 4) else (bif Nat.blt y 184 then 10 else (bif Nat.blt y 185 then 11 else 11))) else (bif Nat.blt y 189 then (bif Nat.blt y 187 then 10 else (bif Nat.blt y 188 then 11 else 12)) else (bif Nat.blt y 190 then 4 else (bif Nat.blt y 191 then 10 else 11)))) else (bif Nat.blt y 197 then (bif Nat.blt y 194 then (bif Nat.blt y 193 then 11 else 11) else (bif Nat.blt y 195 then 11 else (bif Nat.blt y 196 then 11 else 10))) else (bif Nat.blt y 200 then (bif Nat.blt y 198 then 11 else (bif Nat.blt y 199 then 10 else 11)) else (bif Nat.blt y 201 then 4 else (bif Nat.blt y 202 then 10 else 11))))) else (bif Nat.blt y 214 then (bif Nat.blt y 208 then (bif Nat.blt y 205 then (bif Nat.blt y 204 then 3 else 10) else (bif Nat.blt y 206 then 11 else (bif Nat.blt y 207 then 11 else 10))) else (bif Nat.blt y 211 then (bif Nat.blt y 209 then 11 else (bif Nat.blt y 210 then 10 else 10)) else (bif Nat.blt y 212 then 11 else (bif Nat.blt y 213 then 11 else 10)))) else (bif Nat.blt y 220 then (bif Nat.blt y 217 then (bif Nat.blt y 215 then 11 else (bif Nat.blt y 216 then 3 else 10)) else (bif Nat.blt y 218 then 11 else (bif Nat.blt y 219 then 11 else 10))) else (bif Nat.blt y 223 then (bif Nat.blt y 221 then 11 else (bif Nat.blt y 222 then 3 else 10)) else (bif Nat.blt y 224 then 11 else (bif Nat.blt y 225 then 11 else 10)))))) else (bif Nat.blt y 248 then (bif Nat.blt y 237 then (bif Nat.blt y 231 then (bif Nat.blt y 228 then (bif Nat.blt y 227 then 10 else 11) else (bif Nat.blt y 229 then 4 else (bif Nat.blt y 230 then 10 else 11))) else (bif Nat.blt y 234 then (bif Nat.blt y 232 then 11 else (bif Nat.blt y 233 then 18 else 4)) else (bif Nat.blt y 235 then 10 else (bif Nat.blt y 236 then 11 else 11)))) else (bif Nat.blt y 242 then (bif Nat.blt y 239 then (bif Nat.blt y 238 then 10 else 11) else (bif Nat.blt y 240 then 18 else (bif Nat.blt y 241 then 10 else 11))) else (bif Nat.blt y 245 then (bif Nat.blt y 243 then 11 else (bif Nat.blt y 244 then 10 else 11)) else (bif Nat.blt y 246 then 4 else (bif Nat.blt y 247 then 10 else 11))))) else (bif Nat.blt y 259 then (bif Nat.blt y 253 then (bif Nat.blt y 250 then (bif Nat.blt y 249 then 11 else 10) else (bif Nat.blt y 251 then 11 else (bif Nat.blt y 252 then 10 else 11))) else (bif Nat.blt y 256 then (bif Nat.blt y 254 then 11 else (bif Nat.blt y 255 then 10 else 11)) else (bif Nat.blt y 257 then 10 else (bif Nat.blt y 258 then 11 else 10)))) else (bif Nat.blt y 265 then (bif Nat.blt y 262 then (bif Nat.blt y 260 then 11 else (bif Nat.blt y 261 then 10 else 11)) else (bif Nat.blt y 263 then 0 else (bif Nat.blt y 264 then 0 else 10))) else (bif Nat.blt y 268 then (bif Nat.blt y 266 then 11 else (bif Nat.blt y 267 then 11 else 10)) else (bif Nat.blt y 269 then 11 else (bif Nat.blt y 270 then 0 else 18))))))) else (bif Nat.blt y 316 then (bif Nat.blt y 293 then (bif Nat.blt y 282 then (bif Nat.blt y 276 then (bif Nat.blt y 273 then (bif Nat.blt y 272 then 0 else 10) else (bif Nat.blt y 274 then 11 else (bif Nat.blt y 275 then 10 else 11))) else (bif Nat.blt y 279 then (bif Nat.blt y 277 then 9 else (bif Nat.blt y 278 then 9 else 9)) else (bif Nat.blt y 280 then 9 else (bif Nat.blt y 281 then 9 else 9)))) else (bif Nat.blt y 287 then (bif Nat.blt y 284 then (bif Nat.blt y 283 then 9 else 9) else (bif Nat.blt y 285 then 10 else (bif Nat.blt y 286 then 11 else 11))) else (bif Nat.blt y 290 then (bif Nat.blt y 288 then 11 else (bif Nat.blt y 289 then 11 else 9)) else (bif Nat.blt y 291 then 10 else (bif Nat.blt y 292 then 11 else 10))))) else (bif Nat.blt y 304 then (bif Nat.blt y 298 then (bif Nat.blt y 295 then (bif Nat.blt y 294 then 3 else 10) else (bif Nat.blt y 296 then 10 else (bif Nat.blt y 297 then 11 else 10))) else (bif Nat.blt y 301 then (bif Nat.blt y 299 then 11 else (bif Nat.blt y 300 then 11 else 10)) else (bif Nat.blt y 302 then 10 else (bif Nat.blt y 303 then 10 else 11)))) else (bif Nat.blt y 310 then (bif Nat.blt y 307 then (bif Nat.blt y 305 then 11 else (bif Nat.blt y 306 then 10 else 11)) else (bif Nat.blt y 308 then 10 else (bif Nat.blt y 309 then 11 else 10))) else (bif Nat.blt y 313 then (bif Nat.blt y 311 then 11 else (bif Nat.blt y 312 then 10 else 10)) else (bif Nat.blt y 314 then 11 else (bif Nat.blt y 315 then 10 else 10)))))) else (bif Nat.blt y 339 then (bif Nat.blt y 327 then (bif Nat.blt y 321 then (bif Nat.blt y 318 then (bif Nat.blt y 317 then 11 else 11) else (bif Nat.blt y 319 then 1 else (bif Nat.blt y 320 then 1 else 1))) else (bif Nat.blt y 324 then (bif Nat.blt y 322 then 1 else (bif Nat.blt y 323 then 1 else 1)) else (bif Nat.blt y 325 then 1 else (bif Nat.blt y 326 then 4 else 1)))) else (bif Nat.blt y 333 then (bif Nat.blt y 330 then (bif Nat.blt y 328 then 1 else (bif Nat.blt y 329 then 1 else 1)) else (bif Nat.blt y 331 then 1 else (bif Nat.blt y 332 then 1 else 1))) else (bif Nat.blt y 336 then (bif Nat.blt y 334 then 1 else (bif Nat.blt y 335 then 10 else 11)) else (bif Nat.blt y 337 then 11 else (bif Nat.blt y 338 then 11 else 11))))) else (bif Nat.blt y 350 then (bif Nat.blt y 344 then (bif Nat.blt y 341 then (bif Nat.blt y 340 then 11 else 11) else (bif Nat.blt y 342 then 11 else (bif Nat.blt y 343 then 11 else 11))) else (bif Nat.blt y 347 then (bif Nat.blt y 345 then 11 else (bif Nat.blt y 346 then 11 else 11)) else (bif Nat.blt y 348 then 1 else (bif Nat.blt y 349 then 10 else 11)))) else (bif Nat.blt y 356 then (bif Nat.blt y 353 then (bif Nat.blt y 351 then 1 else (bif Nat.blt y 352 then 10 else 11)) else (bif Nat.blt y 354 then 10 else (bif Nat.blt y 355 then 11 else 11))) else (bif Nat.blt y 359 then (bif Nat.blt y 357 then 10 else (bif Nat.blt y 358 then 11 else 11)) else (bif Nat.blt y 360 then 10 else (bif Nat.blt y 361 then 11 else 13)))))))))
set_option maxRecDepth 4000 in
noncomputable def ij_nd (y : Nat) : String × String := (bif Nat.blt y 181 then (bif Nat.blt y 90 then (bif Nat.blt y 45 then (bif Nat.blt y 22 then (bif Nat.blt y 11 then (bif Nat.blt y 5 then (bif Nat.blt y 2 then (bif Nat.blt y 1 then ("<init>", "()V") else ("<init>", "()V")) else (bif Nat.blt y 3 then ("clear", "()V") else (bif Nat.blt y 4 then ("isBoundByPeriod", "(I)Z") else ("floorMod", "(II)I")))) else (bif Nat.blt y 8 then (bif Nat.blt y 6 then ("folded", "(I)I") else (bif Nat.blt y 7 then ("of", "(I)J") else ("below", "(I)J"))) else (bif Nat.blt y 9 then ("stacked", "(III)J") else (bif Nat.blt y 10 then ("settle", "()V") else ("<init>", "()V"))))) else (bif Nat.blt y 16 then (bif Nat.blt y 13 then (bif Nat.blt y 12 then ("<init>", "(LScaleForge$Reader;)V") else ("<init>", "()V")) else (bif Nat.blt y 14 then ("<init>", "(LScaleForge$Reader;)V") else (bif Nat.blt y 15 then ("<init>", "()V") else ("<init>", "()V")))) else (bif Nat.blt y 19 then (bif Nat.blt y 17 then ("<init>", "()V") else (bif Nat.blt y 18 then ("<init>", "(LScaleForge$Scale;LScaleForge$Studies;)V") else ("<init>", "()V"))) else (bif Nat.blt y 20 then ("plain", "(I)V") else (bif Nat.blt y 21 then ("<init>", "()V") else ("status", "()I")))))) else (bif Nat.blt y 33 then (bif Nat.blt y 27 then (bif Nat.blt y 24 then (bif Nat.blt y 23 then ("status", "()I") else ("top", "()J")) else (bif Nat.blt y 25 then ("top", "()J") else (bif Nat.blt y 26 then ("bottom", "()J") else ("bottom", "()J")))) else (bif Nat.blt y 30 then (bif Nat.blt y 28 then ("trayAt", "(I)LScaleForge$Tray;") else (bif Nat.blt y 29 then ("refuse", "(I)Z") else ("empty", "(II)V"))) else (bif Nat.blt y 31 then ("grant", "()Z") else (bif Nat.blt y 32 then ("tray", "(III)Z") else ("isTray", "(I)Z"))))) else (bif Nat.blt y 39 then (bif Nat.blt y 36 then (bif Nat.blt y 34 then ("is", "(I)Z") else (bif Nat.blt y 35 then ("tray", "(III)Z") else ("isMissing", "()Z"))) else (bif Nat.blt y 37 then ("hasPlace", "(I)Z") else (bif Nat.blt y 38 then ("placeTrouble", "(LScaleForge$Tray;I)I") else ("cut", "(J)J")))) else (bif Nat.blt y 42 then (bif Nat.blt y 40 then ("put", "(IJ)V") else (bif Nat.blt y 41 then ("write", "(IIJ)Z") else ("wrongPlace", "(II)I"))) else (bif Nat.blt y 43 then ("cut", "(JI)J") else (bif Nat.blt y 44 then ("write", "(IIJ)Z") else ("none", "(I)I"))))))) else (bif Nat.blt y 67 then (bif Nat.blt y 56 then (bif Nat.blt y 50 then (bif Nat.blt y 47 then (bif Nat.blt y 46 then ("at", "(I)J") else ("read", "(II)J")) else (bif Nat.blt y 48 then ("read", "(II)J") else (bif Nat.blt y 49 then ("hasRun", "(II)Z") else ("pour", "(IIIII)Z")))) else (bif Nat.blt y 53 then (bif Nat.blt y 51 then ("pour", "(IIIII)Z") else (bif Nat.blt y 52 then ("append", "(I)V") else ("feed", "(IIIII)I"))) else (bif Nat.blt y 54 then ("four", "(I)V") else (bif Nat.blt y 55 then ("feed", "(IIIII)I") else ("begin", "(I)V"))))) else (bif Nat.blt y 61 then (bif Nat.blt y 58 then (bif Nat.blt y 57 then ("byteAt", "(I)I") else ("isBlank", "(I)Z")) else (bif Nat.blt y 59 then ("isLetter", "(I)Z") else (bif Nat.blt y 60 then ("passWord", "()V") else ("isDigit", "(I)Z")))) else (bif Nat.blt y 64 then (bif Nat.blt y 62 then ("passNumber", "()V") else (bif Nat.blt y 63 then ("isSign", "(I)Z") else ("blame", "(I)Z"))) else (bif Nat.blt y 65 then ("next", "()Z") else (bif Nat.blt y 66 then ("coder", "()B") else ("length", "()I")))))) else (bif Nat.blt y 78 then (bif Nat.blt y 72 then (bif Nat.blt y 69 then (bif Nat.blt y 68 then ("isLatin1", "()Z") else ("checkIndex", "(IILjava/util/function/BiFunction;)I")) else (bif Nat.blt y 70 then ("checkIndex", "(II)V") else (bif Nat.blt y 71 then ("charAt", "([BI)C") else ("charAt", "(I)C")))) else (bif Nat.blt y 75 then (bif Nat.blt y 73 then ("isWord", "(Ljava/lang/String;)Z") else (bif Nat.blt y 74 then ("partNow", "()I") else ("has", "(JI)Z"))) else (bif Nat.blt y 76 then ("isTooLate", "(I)Z") else (bif Nat.blt y 77 then ("isSignNow", "(C)Z") else ("isTone", "(I)Z"))))) else (bif Nat.blt y 84 then (bif Nat.blt y 81 then (bif Nat.blt y 79 then ("takeSounds", "()Z") else (bif Nat.blt y 80 then ("leastOf", "(I)I") else ("period", "()I"))) else (bif Nat.blt y 82 then ("mostOf", "(II)I") else (bif Nat.blt y 83 then ("takeNumber", "(II)Z") else ("setPart", "(II)V")))) else (bif Nat.blt y 87 then (bif Nat.blt y 85 then ("takeSemicolon", "()Z") else (bif Nat.blt y 86 then ("takePart", "(I)Z") else ("parse", "(I)Z"))) else (bif Nat.blt y 88 then ("becomes", "(LScaleForge$Scale;)V") else (bif Nat.blt y 89 then ("bitCount", "(J)I") else ("degreesMany", "()I")))))))) else (bif Nat.blt y 135 then (bif Nat.blt y 112 then (bif Nat.blt y 101 then (bif Nat.blt y 95 then (bif Nat.blt y 92 then (bif Nat.blt y 91 then ("give", "(I)I") else ("scale", "(I)I")) else (bif Nat.blt y 93 then ("byteAt", "(I)I") else (bif Nat.blt y 94 then ("isSmall", "(I)Z") else ("isDigit", "(I)Z")))) else (bif Nat.blt y 98 then (bif Nat.blt y 96 then ("min", "(II)I") else (bif Nat.blt y 97 then ("ahead", "()V") else ("begins", "(II)Z"))) else (bif Nat.blt y 99 then ("refuse", "(I)I") else (bif Nat.blt y 100 then ("inWords", "(Ljava/lang/String;)I") else ("fails", "(I)Z"))))) else (bif Nat.blt y 106 then (bif Nat.blt y 103 then (bif Nat.blt y 102 then ("isIn", "(II)Z") else ("number", "(III)Z")) else (bif Nat.blt y 104 then ("sounding", "()Z") else (bif Nat.blt y 105 then ("isSign", "(I)Z") else ("wantSign", "(I)Z")))) else (bif Nat.blt y 109 then (bif Nat.blt y 107 then ("leastOf", "(I)I") else (bif Nat.blt y 108 then ("mostOf", "(II)I") else ("scalePart", "()Z"))) else (bif Nat.blt y 110 then ("isFolded", "(I)Z") else (bif Nat.blt y 111 then ("folds", "(I)V") else ("folded", "(II)I")))))) else (bif Nat.blt y 123 then (bif Nat.blt y 117 then (bif Nat.blt y 114 then (bif Nat.blt y 113 then ("chainBy", "(II)I") else ("lays", "(II)V")) else (bif Nat.blt y 115 then ("laysScale", "()V") else (bif Nat.blt y 116 then ("gives", "(I)I") else ("taken", "(I)I")))) else (bif Nat.blt y 120 then (bif Nat.blt y 118 then ("scale", "(I)I") else (bif Nat.blt y 119 then ("hasStep", "(I)Z") else ("takeEnd", "()Z"))) else (bif Nat.blt y 121 then ("kindNow", "()I") else (bif Nat.blt y 122 then ("comparesNow", "()I") else ("toneTestNow", "()I"))))) else (bif Nat.blt y 129 then (bif Nat.blt y 126 then (bif Nat.blt y 124 then ("takeTest", "(I)Z") else (bif Nat.blt y 125 then ("mostNumber", "(II)I") else ("takeStep", "(I)Z"))) else (bif Nat.blt y 127 then ("parse", "(I)Z") else (bif Nat.blt y 128 then ("becomes", "(LScaleForge$Studies;)V") else ("studies", "(I)I")))) else (bif Nat.blt y 132 then (bif Nat.blt y 130 then ("test", "(I)Z") else (bif Nat.blt y 131 then ("studyOrder", "(II)Z") else ("studyStep", "()Z"))) else (bif Nat.blt y 133 then ("studies", "(I)I") else (bif Nat.blt y 134 then ("fault", "(I)I") else ("fault", "(I)I"))))))) else (bif Nat.blt y 158 then (bif Nat.blt y 146 then (bif Nat.blt y 140 then (bif Nat.blt y 137 then (bif Nat.blt y 136 then ("part", "(I)I") else ("gather", "(JI)V")) else (bif Nat.blt y 138 then ("degreesRing", "()LScaleForge$Ring;") else (bif Nat.blt y 139 then ("toneAt", "(I)I") else ("between", "(II)I")))) else (bif Nat.blt y 143 then (bif Nat.blt y 141 then ("spanFrom", "(II)I") else (bif Nat.blt y 142 then ("sizes", "()J") else ("told", "(I)I"))) else (bif Nat.blt y 144 then ("sounds", "(I)I") else (bif Nat.blt y 145 then ("soundMany", "()I") else ("told", "(I)I"))))) else (bif Nat.blt y 152 then (bif Nat.blt y 149 then (bif Nat.blt y 147 then ("isFarName", "(I)Z") else (bif Nat.blt y 148 then ("chainTone", "(I)I") else ("chain", "(I)I"))) else (bif Nat.blt y 150 then ("isFrom", "(JJJ)Z") else (bif Nat.blt y 151 then ("chain", "(I)I") else ("isDegree", "(I)Z")))) else (bif Nat.blt y 155 then (bif Nat.blt y 153 then ("tone", "(I)I") else (bif Nat.blt y 154 then ("isDegree", "(I)Z") else ("tone", "(I)I"))) else (bif Nat.blt y 156 then ("isOfDegree", "(I)Z") else (bif Nat.blt y 157 then ("degreeOf", "(I)I") else ("degree", "(I)I")))))) else (bif Nat.blt y 169 then (bif Nat.blt y 163 then (bif Nat.blt y 160 then (bif Nat.blt y 159 then ("isTone", "(I)Z") else ("orNone", "(I)I")) else (bif Nat.blt y 161 then ("degree", "(I)I") else (bif Nat.blt y 162 then ("step", "(I)I") else ("step", "(I)I")))) else (bif Nat.blt y 166 then (bif Nat.blt y 164 then ("span", "(II)I") else (bif Nat.blt y 165 then ("spanOf", "(II)I") else ("span", "(II)I"))) else (bif Nat.blt y 167 then ("pick", "(JI)I") else (bif Nat.blt y 168 then ("giveFound", "(I)I") else ("sizeAt", "(I)I"))))) else (bif Nat.blt y 175 then (bif Nat.blt y 172 then (bif Nat.blt y 170 then ("isSize", "(I)Z") else (bif Nat.blt y 171 then ("sizeAt", "(I)I") else ("stepsOf", "(I)I"))) else (bif Nat.blt y 173 then ("sizeMany", "(I)I") else (bif Nat.blt y 174 then ("sizeCount", "(I)I") else ("sizeMany", "(I)I")))) else (bif Nat.blt y 178 then (bif Nat.blt y 176 then ("isAllowed", "(III)Z") else (bif Nat.blt y 177 then ("rule", "(II)I") else ("rule", "(II)I"))) else (bif Nat.blt y 179 then ("strike", "(I)Z") else (bif Nat.blt y 180 then ("press", "(I)I") else ("presses", "(I)Z"))))))))) else (bif Nat.blt y 271 then (bif Nat.blt y 226 then (bif Nat.blt y 203 then (bif Nat.blt y 192 then (bif Nat.blt y 186 then (bif Nat.blt y 183 then (bif Nat.blt y 182 then ("press", "(I)I") else ("release", "(I)Z")) else (bif Nat.blt y 184 then ("lift", "(I)I") else (bif Nat.blt y 185 then ("lifts", "(I)Z") else ("lift", "(I)I")))) else (bif Nat.blt y 189 then (bif Nat.blt y 187 then ("sift", "()I") else (bif Nat.blt y 188 then ("sift", "()I") else ("turn", "(JII)J"))) else (bif Nat.blt y 190 then ("fitting", "()I") else (bif Nat.blt y 191 then ("glide", "(I)I") else ("keeps", "(I)V"))))) else (bif Nat.blt y 197 then (bif Nat.blt y 194 then (bif Nat.blt y 193 then ("laysChain", "(II)V") else ("fitBy", "()I")) else (bif Nat.blt y 195 then ("fitNow", "()I") else (bif Nat.blt y 196 then ("glide", "(I)I") else ("flip", "()I")))) else (bif Nat.blt y 200 then (bif Nat.blt y 198 then ("flip", "()I") else (bif Nat.blt y 199 then ("soundAt", "(I)I") else ("soundAt", "(I)I"))) else (bif Nat.blt y 201 then ("pressedAt", "(I)I") else (bif Nat.blt y 202 then ("recent", "(I)I") else ("recent", "(I)I")))))) else (bif Nat.blt y 214 then (bif Nat.blt y 208 then (bif Nat.blt y 205 then (bif Nat.blt y 204 then ("spanSorts", "(I)I") else ("variety", "(I)I")) else (bif Nat.blt y 206 then ("varietyOf", "(I)I") else (bif Nat.blt y 207 then ("variety", "(I)I") else ("myhill", "()I")))) else (bif Nat.blt y 211 then (bif Nat.blt y 209 then ("myhill", "()I") else (bif Nat.blt y 210 then ("wellFormed", "()J") else ("lengths", "()I"))) else (bif Nat.blt y 212 then ("wellFormed", "(I)I") else (bif Nat.blt y 213 then ("lengths", "()I") else ("lengthAt", "(I)I"))))) else (bif Nat.blt y 220 then (bif Nat.blt y 217 then (bif Nat.blt y 215 then ("lengthAt", "(I)I") else (bif Nat.blt y 216 then ("modeOf", "(I)J") else ("modes", "()I"))) else (bif Nat.blt y 218 then ("areAlike", "(II)Z") else (bif Nat.blt y 219 then ("modes", "()I") else ("alike", "(II)I")))) else (bif Nat.blt y 223 then (bif Nat.blt y 221 then ("alike", "(II)I") else (bif Nat.blt y 222 then ("brightnessOf", "(I)I") else ("brightness", "(I)I"))) else (bif Nat.blt y 224 then ("brightnessOf", "(I)I") else (bif Nat.blt y 225 then ("brightness", "(I)I") else ("darkerThan", "(II)I"))))))) else (bif Nat.blt y 248 then (bif Nat.blt y 237 then (bif Nat.blt y 231 then (bif Nat.blt y 228 then (bif Nat.blt y 227 then ("modeBy", "(I)I") else ("modeBy", "(I)I")) else (bif Nat.blt y 229 then ("nominalOf", "(I)I") else (bif Nat.blt y 230 then ("nominal", "(I)I") else ("nominalOf", "(I)I")))) else (bif Nat.blt y 234 then (bif Nat.blt y 232 then ("nominal", "(I)I") else (bif Nat.blt y 233 then ("floorDiv", "(II)I") else ("sharpsOf", "(I)I"))) else (bif Nat.blt y 235 then ("sharps", "(I)I") else (bif Nat.blt y 236 then ("sharpsOf", "(I)I") else ("sharps", "(I)I"))))) else (bif Nat.blt y 242 then (bif Nat.blt y 239 then (bif Nat.blt y 238 then ("named", "(II)I") else ("named", "(II)I")) else (bif Nat.blt y 240 then ("abs", "(I)I") else (bif Nat.blt y 241 then ("simplest", "(II)I") else ("laysNames", "(I)V")))) else (bif Nat.blt y 245 then (bif Nat.blt y 243 then ("simplest", "(II)I") else (bif Nat.blt y 244 then ("names", "(I)I") else ("names", "(I)I"))) else (bif Nat.blt y 246 then ("toneOfKey", "(II)I") else (bif Nat.blt y 247 then ("keyTone", "(II)I") else ("toneOfKey", "(I)I")))))) else (bif Nat.blt y 259 then (bif Nat.blt y 253 then (bif Nat.blt y 250 then (bif Nat.blt y 249 then ("keyTone", "(II)I") else ("keys", "(I)I")) else (bif Nat.blt y 251 then ("keys", "(I)I") else (bif Nat.blt y 252 then ("keyOf", "(II)I") else ("bestKey", "(I)I")))) else (bif Nat.blt y 256 then (bif Nat.blt y 254 then ("keyOf", "(II)I") else (bif Nat.blt y 255 then ("keyTones", "()I") else ("keyTones", "()I"))) else (bif Nat.blt y 257 then ("nearest", "(I)I") else (bif Nat.blt y 258 then ("nearest", "(I)I") else ("fit", "()I"))))) else (bif Nat.blt y 265 then (bif Nat.blt y 262 then (bif Nat.blt y 260 then ("fit", "()I") else (bif Nat.blt y 261 then ("bestRoot", "()I") else ("bestRoot", "()I"))) else (bif Nat.blt y 263 then ("reachOf", "(LScaleForge$Scale;I)J") else (bif Nat.blt y 264 then ("search", "(LScaleForge$Scale;)V") else ("guesses", "()I")))) else (bif Nat.blt y 268 then (bif Nat.blt y 266 then ("laysGuesses", "()I") else (bif Nat.blt y 267 then ("guesses", "()I") else ("guessAt", "(I)I"))) else (bif Nat.blt y 269 then ("guessAt", "(I)I") else (bif Nat.blt y 270 then ("staying", "(II)I") else ("max", "(II)I")))))))) else (bif Nat.blt y 316 then (bif Nat.blt y 293 then (bif Nat.blt y 282 then (bif Nat.blt y 276 then (bif Nat.blt y 273 then (bif Nat.blt y 272 then ("bestQuestion", "(LScaleForge$Scale;)I") else ("ask", "()I")) else (bif Nat.blt y 274 then ("ask", "()I") else (bif Nat.blt y 275 then ("common", "(I)I") else ("common", "(I)I")))) else (bif Nat.blt y 279 then (bif Nat.blt y 277 then ("apart", "(II)I") else (bif Nat.blt y 278 then ("getToGo", "(II)I") else ("farBy", "(III)I"))) else (bif Nat.blt y 280 then ("fewestFrom", "(II)I") else (bif Nat.blt y 281 then ("setToGo", "(III)V") else ("putInOrder", "()V"))))) else (bif Nat.blt y 287 then (bif Nat.blt y 284 then (bif Nat.blt y 283 then ("lay", "(JI)V") else ("length", "()I")) else (bif Nat.blt y 285 then ("way", "()I") else (bif Nat.blt y 286 then ("arrives", "()V") else ("apart", "(II)I")))) else (bif Nat.blt y 290 then (bif Nat.blt y 288 then ("laysWay", "()Z") else (bif Nat.blt y 289 then ("way", "()I") else ("stopAt", "(I)I"))) else (bif Nat.blt y 291 then ("wayAt", "(I)I") else (bif Nat.blt y 292 then ("wayAt", "(I)I") else ("pairShapes", "(LScaleForge$Ring;)I")))))) else (bif Nat.blt y 304 then (bif Nat.blt y 298 then (bif Nat.blt y 295 then (bif Nat.blt y 294 then ("farther", "(II)J") else ("tripleShapes", "(LScaleForge$Ring;)I")) else (bif Nat.blt y 296 then ("shapes", "(I)I") else (bif Nat.blt y 297 then ("shapes", "(I)I") else ("convergents", "()I")))) else (bif Nat.blt y 301 then (bif Nat.blt y 299 then ("laysConvergents", "()I") else (bif Nat.blt y 300 then ("convergents", "()I") else ("commonDivisor", "(JJ)J"))) else (bif Nat.blt y 302 then ("tell", "(JJ)Z") else (bif Nat.blt y 303 then ("convergent", "(I)Z") else ("tellsBy", "(JJ)Z"))))) else (bif Nat.blt y 310 then (bif Nat.blt y 307 then (bif Nat.blt y 305 then ("convergent", "(I)Z") else (bif Nat.blt y 306 then ("ratio", "()Z") else ("ratio", "()Z"))) else (bif Nat.blt y 308 then ("share", "(I)Z") else (bif Nat.blt y 309 then ("share", "(I)Z") else ("mistuned", "(II)Z")))) else (bif Nat.blt y 313 then (bif Nat.blt y 311 then ("mistuned", "(II)Z") else (bif Nat.blt y 312 then ("runTrouble", "(LScaleForge$Tray;I)I") else ("copyScale", "(I)I"))) else (bif Nat.blt y 314 then ("copyScale", "(I)I") else (bif Nat.blt y 315 then ("isStepApart", "(II)Z") else ("steps", "(II)I"))))))) else (bif Nat.blt y 339 then (bif Nat.blt y 327 then (bif Nat.blt y 321 then (bif Nat.blt y 318 then (bif Nat.blt y 317 then ("areBeside", "(II)Z") else ("steps", "(II)I")) else (bif Nat.blt y 319 then ("innermost", "()I") else (bif Nat.blt y 320 then ("isAtEnd", "()Z") else ("dropHeld", "(I)V")))) else (bif Nat.blt y 324 then (bif Nat.blt y 322 then ("endInnermost", "()V") else (bif Nat.blt y 323 then ("comesToStep", "()Z") else ("strikeOrMiss", "(I)Z"))) else (bif Nat.blt y 325 then ("releaseOrMiss", "(I)V") else (bif Nat.blt y 326 then ("moveRoot", "(I)Z") else ("draw", "(I)I"))))) else (bif Nat.blt y 333 then (bif Nat.blt y 330 then (bif Nat.blt y 328 then ("doAny", "()V") else (bif Nat.blt y 329 then ("enterIf", "(ZII)V") else ("isSo", "(II)Z"))) else (bif Nat.blt y 331 then ("leaveHold", "()V") else (bif Nat.blt y 332 then ("doStep", "(I)V") else ("letAllGo", "()V")))) else (bif Nat.blt y 336 then (bif Nat.blt y 334 then ("run", "(I)V") else (bif Nat.blt y 335 then ("live", "(I)I") else ("ranIf", "(IZ)Z"))) else (bif Nat.blt y 337 then ("roots", "(I)Z") else (bif Nat.blt y 338 then ("holdsOn", "(I)Z") else ("draw", "(I)I")))))) else (bif Nat.blt y 350 then (bif Nat.blt y 344 then (bif Nat.blt y 341 then (bif Nat.blt y 340 then ("doesAny", "()Z") else ("does", "(I)Z")) else (bif Nat.blt y 342 then ("letsGo", "()V") else (bif Nat.blt y 343 then ("behindEnds", "(I)I") else ("holds", "(I)Z")))) else (bif Nat.blt y 347 then (bif Nat.blt y 345 then ("behind", "(IZ)I") else (bif Nat.blt y 346 then ("lives", "(I)V") else ("live", "(I)I"))) else (bif Nat.blt y 348 then ("count", "(I)I") else (bif Nat.blt y 349 then ("lived", "(I)I") else ("lived", "(I)I"))))) else (bif Nat.blt y 356 then (bif Nat.blt y 353 then (bif Nat.blt y 351 then ("letGoAt", "(I)I") else (bif Nat.blt y 352 then ("logAt", "(I)I") else ("logAt", "(I)I"))) else (bif Nat.blt y 354 then ("mean", "(II)Z") else (bif Nat.blt y 355 then ("brings", "(I)V") else ("mean", "(II)Z")))) else (bif Nat.blt y 359 then (bif Nat.blt y 357 then ("mark", "()I") else (bif Nat.blt y 358 then ("copies", "(II)V") else ("mark", "()I"))) else (bif Nat.blt y 360 then ("undo", "()I") else (bif Nat.blt y 361 then ("undo", "()I") else ("law", "([I)Z"))))))))))
noncomputable def ij_nm (y : Nat) : MethodName := ⟨ij_cn (ij_ow y), (ij_nd y).1, (ij_nd y).2⟩
set_option maxRecDepth 4000 in
noncomputable def ij_bt (y : Nat) : ByteArray := (bif Nat.blt y 181 then (bif Nat.blt y 90 then (bif Nat.blt y 45 then (bif Nat.blt y 22 then (bif Nat.blt y 11 then (bif Nat.blt y 5 then (bif Nat.blt y 2 then (bif Nat.blt y 1 then prog_11_method_1_code else prog_5_method_1_code) else (bif Nat.blt y 3 then prog_7_method_2_code else (bif Nat.blt y 4 then prog_1_method_81_code else prog_16_method_50_code))) else (bif Nat.blt y 8 then (bif Nat.blt y 6 then prog_7_method_8_code else (bif Nat.blt y 7 then prog_2_method_2_code else prog_2_method_4_code)) else (bif Nat.blt y 9 then prog_7_method_11_code else (bif Nat.blt y 10 then prog_7_method_7_code else prog_7_method_1_code)))) else (bif Nat.blt y 16 then (bif Nat.blt y 13 then (bif Nat.blt y 12 then prog_8_method_1_code else prog_9_method_1_code) else (bif Nat.blt y 14 then prog_10_method_1_code else (bif Nat.blt y 15 then prog_6_method_1_code else prog_3_method_1_code))) else (bif Nat.blt y 19 then (bif Nat.blt y 17 then prog_12_method_1_code else (bif Nat.blt y 18 then prog_4_method_1_code else prog_1_method_1_code)) else (bif Nat.blt y 20 then prog_14_method_2_code else (bif Nat.blt y 21 then prog_14_method_1_code else prog_1_method_2_code))))) else (bif Nat.blt y 33 then (bif Nat.blt y 27 then (bif Nat.blt y 24 then (bif Nat.blt y 23 then prog_14_method_3_code else prog_1_method_3_code) else (bif Nat.blt y 25 then prog_14_method_4_code else (bif Nat.blt y 26 then prog_1_method_4_code else prog_14_method_5_code))) else (bif Nat.blt y 30 then (bif Nat.blt y 28 then prog_1_method_76_code else (bif Nat.blt y 29 then prog_1_method_73_code else prog_11_method_2_code)) else (bif Nat.blt y 31 then prog_1_method_72_code else (bif Nat.blt y 32 then prog_1_method_5_code else prog_14_method_11_code)))) else (bif Nat.blt y 39 then (bif Nat.blt y 36 then (bif Nat.blt y 34 then prog_14_method_6_code else (bif Nat.blt y 35 then prog_14_method_13_code else prog_11_method_3_code)) else (bif Nat.blt y 37 then prog_11_method_4_code else (bif Nat.blt y 38 then prog_1_method_77_code else prog_11_method_8_code))) else (bif Nat.blt y 42 then (bif Nat.blt y 40 then prog_11_method_7_code else (bif Nat.blt y 41 then prog_1_method_6_code else prog_14_method_14_code)) else (bif Nat.blt y 43 then prog_14_method_12_code else (bif Nat.blt y 44 then prog_14_method_15_code else prog_1_method_70_code)))))) else (bif Nat.blt y 67 then (bif Nat.blt y 56 then (bif Nat.blt y 50 then (bif Nat.blt y 47 then (bif Nat.blt y 46 then prog_11_method_6_code else prog_1_method_7_code) else (bif Nat.blt y 48 then prog_14_method_16_code else (bif Nat.blt y 49 then prog_11_method_5_code else prog_1_method_8_code))) else (bif Nat.blt y 53 then (bif Nat.blt y 51 then prog_14_method_17_code else (bif Nat.blt y 52 then prog_5_method_2_code else prog_1_method_9_code)) else (bif Nat.blt y 54 then prog_14_method_20_code else (bif Nat.blt y 55 then prog_14_method_19_code else prog_5_method_3_code)))) else (bif Nat.blt y 61 then (bif Nat.blt y 58 then (bif Nat.blt y 57 then prog_5_method_12_code else prog_5_method_13_code) else (bif Nat.blt y 59 then prog_5_method_14_code else (bif Nat.blt y 60 then prog_5_method_6_code else prog_5_method_15_code))) else (bif Nat.blt y 64 then (bif Nat.blt y 62 then prog_5_method_7_code else (bif Nat.blt y 63 then prog_5_method_16_code else prog_5_method_4_code)) else (bif Nat.blt y 65 then prog_5_method_5_code else (bif Nat.blt y 66 then prog_17_method_152_code else prog_17_method_54_code))))) else (bif Nat.blt y 78 then (bif Nat.blt y 72 then (bif Nat.blt y 69 then (bif Nat.blt y 68 then prog_17_method_154_code else prog_21_method_11_code) else (bif Nat.blt y 70 then prog_17_method_155_code else (bif Nat.blt y 71 then prog_18_method_2_code else prog_17_method_56_code))) else (bif Nat.blt y 75 then (bif Nat.blt y 73 then prog_5_method_8_code else (bif Nat.blt y 74 then prog_8_method_6_code else prog_2_method_3_code)) else (bif Nat.blt y 76 then prog_8_method_4_code else (bif Nat.blt y 77 then prog_5_method_9_code else prog_7_method_9_code)))) else (bif Nat.blt y 84 then (bif Nat.blt y 81 then (bif Nat.blt y 79 then prog_8_method_5_code else (bif Nat.blt y 80 then prog_1_method_83_code else prog_7_method_6_code)) else (bif Nat.blt y 82 then prog_1_method_84_code else (bif Nat.blt y 83 then prog_5_method_10_code else prog_7_method_5_code))) else (bif Nat.blt y 87 then (bif Nat.blt y 85 then prog_5_method_11_code else (bif Nat.blt y 86 then prog_8_method_3_code else prog_8_method_2_code)) else (bif Nat.blt y 88 then prog_7_method_3_code else (bif Nat.blt y 89 then prog_15_method_50_code else prog_7_method_12_code))))))) else (bif Nat.blt y 135 then (bif Nat.blt y 112 then (bif Nat.blt y 101 then (bif Nat.blt y 95 then (bif Nat.blt y 92 then (bif Nat.blt y 91 then prog_1_method_69_code else prog_1_method_10_code) else (bif Nat.blt y 93 then prog_14_method_21_code else (bif Nat.blt y 94 then prog_14_method_22_code else prog_14_method_23_code))) else (bif Nat.blt y 98 then (bif Nat.blt y 96 then prog_16_method_69_code else (bif Nat.blt y 97 then prog_14_method_24_code else prog_14_method_28_code)) else (bif Nat.blt y 99 then prog_14_method_7_code else (bif Nat.blt y 100 then prog_14_method_26_code else prog_14_method_27_code)))) else (bif Nat.blt y 106 then (bif Nat.blt y 103 then (bif Nat.blt y 102 then prog_14_method_33_code else prog_14_method_30_code) else (bif Nat.blt y 104 then prog_14_method_37_code else (bif Nat.blt y 105 then prog_14_method_25_code else prog_14_method_29_code))) else (bif Nat.blt y 109 then (bif Nat.blt y 107 then prog_14_method_34_code else (bif Nat.blt y 108 then prog_14_method_35_code else prog_14_method_38_code)) else (bif Nat.blt y 110 then prog_14_method_36_code else (bif Nat.blt y 111 then prog_14_method_39_code else prog_14_method_45_code))))) else (bif Nat.blt y 123 then (bif Nat.blt y 117 then (bif Nat.blt y 114 then (bif Nat.blt y 113 then prog_14_method_46_code else prog_14_method_47_code) else (bif Nat.blt y 115 then prog_14_method_48_code else (bif Nat.blt y 116 then prog_14_method_8_code else prog_14_method_32_code))) else (bif Nat.blt y 120 then (bif Nat.blt y 118 then prog_14_method_40_code else (bif Nat.blt y 119 then prog_9_method_3_code else prog_10_method_3_code)) else (bif Nat.blt y 121 then prog_10_method_9_code else (bif Nat.blt y 122 then prog_10_method_7_code else prog_10_method_6_code)))) else (bif Nat.blt y 129 then (bif Nat.blt y 126 then (bif Nat.blt y 124 then prog_10_method_5_code else (bif Nat.blt y 125 then prog_10_method_8_code else prog_10_method_4_code)) else (bif Nat.blt y 127 then prog_10_method_2_code else (bif Nat.blt y 128 then prog_9_method_2_code else prog_1_method_11_code))) else (bif Nat.blt y 132 then (bif Nat.blt y 130 then prog_14_method_41_code else (bif Nat.blt y 131 then prog_14_method_42_code else prog_14_method_43_code)) else (bif Nat.blt y 133 then prog_14_method_44_code else (bif Nat.blt y 134 then prog_1_method_12_code else prog_14_method_31_code)))))) else (bif Nat.blt y 158 then (bif Nat.blt y 146 then (bif Nat.blt y 140 then (bif Nat.blt y 137 then (bif Nat.blt y 136 then prog_7_method_4_code else prog_6_method_2_code) else (bif Nat.blt y 138 then prog_1_method_85_code else (bif Nat.blt y 139 then prog_6_method_3_code else prog_6_method_5_code))) else (bif Nat.blt y 143 then (bif Nat.blt y 141 then prog_6_method_4_code else (bif Nat.blt y 142 then prog_6_method_7_code else prog_1_method_13_code)) else (bif Nat.blt y 144 then prog_14_method_51_code else (bif Nat.blt y 145 then prog_14_method_52_code else prog_14_method_56_code)))) else (bif Nat.blt y 152 then (bif Nat.blt y 149 then (bif Nat.blt y 147 then prog_1_method_80_code else (bif Nat.blt y 148 then prog_7_method_10_code else prog_1_method_14_code)) else (bif Nat.blt y 150 then prog_14_method_18_code else (bif Nat.blt y 151 then prog_14_method_57_code else prog_1_method_79_code))) else (bif Nat.blt y 155 then (bif Nat.blt y 153 then prog_1_method_15_code else (bif Nat.blt y 154 then prog_14_method_50_code else prog_14_method_58_code)) else (bif Nat.blt y 156 then prog_7_method_13_code else (bif Nat.blt y 157 then prog_1_method_86_code else prog_1_method_16_code))))) else (bif Nat.blt y 169 then (bif Nat.blt y 163 then (bif Nat.blt y 160 then (bif Nat.blt y 159 then prog_14_method_49_code else prog_14_method_9_code) else (bif Nat.blt y 161 then prog_14_method_59_code else (bif Nat.blt y 162 then prog_1_method_17_code else prog_14_method_60_code))) else (bif Nat.blt y 166 then (bif Nat.blt y 164 then prog_1_method_18_code else (bif Nat.blt y 165 then prog_14_method_53_code else prog_14_method_61_code)) else (bif Nat.blt y 167 then prog_2_method_5_code else (bif Nat.blt y 168 then prog_1_method_71_code else prog_1_method_19_code)))) else (bif Nat.blt y 175 then (bif Nat.blt y 172 then (bif Nat.blt y 170 then prog_14_method_55_code else (bif Nat.blt y 171 then prog_14_method_62_code else prog_6_method_8_code)) else (bif Nat.blt y 173 then prog_1_method_20_code else (bif Nat.blt y 174 then prog_14_method_54_code else prog_14_method_63_code))) else (bif Nat.blt y 178 then (bif Nat.blt y 176 then prog_1_method_82_code else (bif Nat.blt y 177 then prog_1_method_21_code else prog_14_method_64_code)) else (bif Nat.blt y 179 then prog_7_method_18_code else (bif Nat.blt y 180 then prog_1_method_22_code else prog_14_method_65_code)))))))) else (bif Nat.blt y 271 then (bif Nat.blt y 226 then (bif Nat.blt y 203 then (bif Nat.blt y 192 then (bif Nat.blt y 186 then (bif Nat.blt y 183 then (bif Nat.blt y 182 then prog_14_method_67_code else prog_7_method_19_code) else (bif Nat.blt y 184 then prog_1_method_23_code else (bif Nat.blt y 185 then prog_14_method_66_code else prog_14_method_68_code))) else (bif Nat.blt y 189 then (bif Nat.blt y 187 then prog_1_method_24_code else (bif Nat.blt y 188 then prog_14_method_69_code else prog_2_method_6_code)) else (bif Nat.blt y 190 then prog_7_method_14_code else (bif Nat.blt y 191 then prog_1_method_25_code else prog_14_method_140_code)))) else (bif Nat.blt y 197 then (bif Nat.blt y 194 then (bif Nat.blt y 193 then prog_14_method_101_code else prog_14_method_102_code) else (bif Nat.blt y 195 then prog_14_method_103_code else (bif Nat.blt y 196 then prog_14_method_72_code else prog_1_method_26_code))) else (bif Nat.blt y 200 then (bif Nat.blt y 198 then prog_14_method_73_code else (bif Nat.blt y 199 then prog_1_method_27_code else prog_14_method_70_code)) else (bif Nat.blt y 201 then prog_7_method_21_code else (bif Nat.blt y 202 then prog_1_method_28_code else prog_14_method_71_code))))) else (bif Nat.blt y 214 then (bif Nat.blt y 208 then (bif Nat.blt y 205 then (bif Nat.blt y 204 then prog_6_method_6_code else prog_1_method_29_code) else (bif Nat.blt y 206 then prog_14_method_74_code else (bif Nat.blt y 207 then prog_14_method_75_code else prog_1_method_30_code))) else (bif Nat.blt y 211 then (bif Nat.blt y 209 then prog_14_method_76_code else (bif Nat.blt y 210 then prog_1_method_88_code else prog_1_method_31_code)) else (bif Nat.blt y 212 then prog_14_method_77_code else (bif Nat.blt y 213 then prog_14_method_78_code else prog_1_method_32_code)))) else (bif Nat.blt y 220 then (bif Nat.blt y 217 then (bif Nat.blt y 215 then prog_14_method_79_code else (bif Nat.blt y 216 then prog_6_method_9_code else prog_1_method_33_code)) else (bif Nat.blt y 218 then prog_14_method_80_code else (bif Nat.blt y 219 then prog_14_method_81_code else prog_1_method_34_code))) else (bif Nat.blt y 223 then (bif Nat.blt y 221 then prog_14_method_82_code else (bif Nat.blt y 222 then prog_6_method_10_code else prog_1_method_35_code)) else (bif Nat.blt y 224 then prog_14_method_83_code else (bif Nat.blt y 225 then prog_14_method_84_code else prog_1_method_87_code)))))) else (bif Nat.blt y 248 then (bif Nat.blt y 237 then (bif Nat.blt y 231 then (bif Nat.blt y 228 then (bif Nat.blt y 227 then prog_1_method_36_code else prog_14_method_85_code) else (bif Nat.blt y 229 then prog_7_method_15_code else (bif Nat.blt y 230 then prog_1_method_37_code else prog_14_method_86_code))) else (bif Nat.blt y 234 then (bif Nat.blt y 232 then prog_14_method_88_code else (bif Nat.blt y 233 then prog_16_method_47_code else prog_7_method_16_code)) else (bif Nat.blt y 235 then prog_1_method_38_code else (bif Nat.blt y 236 then prog_14_method_87_code else prog_14_method_89_code)))) else (bif Nat.blt y 242 then (bif Nat.blt y 239 then (bif Nat.blt y 238 then prog_1_method_39_code else prog_14_method_90_code) else (bif Nat.blt y 240 then prog_16_method_59_code else (bif Nat.blt y 241 then prog_1_method_40_code else prog_14_method_91_code))) else (bif Nat.blt y 245 then (bif Nat.blt y 243 then prog_14_method_92_code else (bif Nat.blt y 244 then prog_1_method_41_code else prog_14_method_93_code)) else (bif Nat.blt y 246 then prog_7_method_17_code else (bif Nat.blt y 247 then prog_1_method_42_code else prog_14_method_94_code))))) else (bif Nat.blt y 259 then (bif Nat.blt y 253 then (bif Nat.blt y 250 then (bif Nat.blt y 249 then prog_14_method_95_code else prog_1_method_43_code) else (bif Nat.blt y 251 then prog_14_method_96_code else (bif Nat.blt y 252 then prog_1_method_44_code else prog_14_method_97_code))) else (bif Nat.blt y 256 then (bif Nat.blt y 254 then prog_14_method_98_code else (bif Nat.blt y 255 then prog_1_method_45_code else prog_14_method_99_code)) else (bif Nat.blt y 257 then prog_1_method_46_code else (bif Nat.blt y 258 then prog_14_method_100_code else prog_1_method_47_code)))) else (bif Nat.blt y 265 then (bif Nat.blt y 262 then (bif Nat.blt y 260 then prog_14_method_104_code else (bif Nat.blt y 261 then prog_1_method_48_code else prog_14_method_105_code)) else (bif Nat.blt y 263 then prog_3_method_3_code else (bif Nat.blt y 264 then prog_3_method_2_code else prog_1_method_49_code))) else (bif Nat.blt y 268 then (bif Nat.blt y 266 then prog_14_method_113_code else (bif Nat.blt y 267 then prog_14_method_114_code else prog_1_method_50_code)) else (bif Nat.blt y 269 then prog_14_method_115_code else (bif Nat.blt y 270 then prog_3_method_5_code else prog_16_method_65_code))))))) else (bif Nat.blt y 316 then (bif Nat.blt y 293 then (bif Nat.blt y 282 then (bif Nat.blt y 276 then (bif Nat.blt y 273 then (bif Nat.blt y 272 then prog_3_method_4_code else prog_1_method_51_code) else (bif Nat.blt y 274 then prog_14_method_116_code else (bif Nat.blt y 275 then prog_1_method_52_code else prog_14_method_106_code))) else (bif Nat.blt y 279 then (bif Nat.blt y 277 then prog_12_method_8_code else (bif Nat.blt y 278 then prog_12_method_9_code else prog_12_method_6_code)) else (bif Nat.blt y 280 then prog_12_method_5_code else (bif Nat.blt y 281 then prog_12_method_10_code else prog_12_method_7_code)))) else (bif Nat.blt y 287 then (bif Nat.blt y 284 then (bif Nat.blt y 283 then prog_12_method_2_code else prog_12_method_3_code) else (bif Nat.blt y 285 then prog_1_method_53_code else (bif Nat.blt y 286 then prog_14_method_108_code else prog_14_method_107_code))) else (bif Nat.blt y 290 then (bif Nat.blt y 288 then prog_14_method_109_code else (bif Nat.blt y 289 then prog_14_method_110_code else prog_12_method_4_code)) else (bif Nat.blt y 291 then prog_1_method_54_code else (bif Nat.blt y 292 then prog_14_method_111_code else prog_1_method_89_code))))) else (bif Nat.blt y 304 then (bif Nat.blt y 298 then (bif Nat.blt y 295 then (bif Nat.blt y 294 then prog_6_method_11_code else prog_1_method_90_code) else (bif Nat.blt y 296 then prog_1_method_55_code else (bif Nat.blt y 297 then prog_14_method_112_code else prog_1_method_56_code))) else (bif Nat.blt y 301 then (bif Nat.blt y 299 then prog_14_method_117_code else (bif Nat.blt y 300 then prog_14_method_118_code else prog_1_method_75_code)) else (bif Nat.blt y 302 then prog_1_method_74_code else (bif Nat.blt y 303 then prog_1_method_57_code else prog_14_method_10_code)))) else (bif Nat.blt y 310 then (bif Nat.blt y 307 then (bif Nat.blt y 305 then prog_14_method_119_code else (bif Nat.blt y 306 then prog_1_method_58_code else prog_14_method_120_code)) else (bif Nat.blt y 308 then prog_1_method_59_code else (bif Nat.blt y 309 then prog_14_method_121_code else prog_1_method_60_code))) else (bif Nat.blt y 313 then (bif Nat.blt y 311 then prog_14_method_122_code else (bif Nat.blt y 312 then prog_1_method_78_code else prog_1_method_61_code)) else (bif Nat.blt y 314 then prog_14_method_123_code else (bif Nat.blt y 315 then prog_1_method_91_code else prog_1_method_62_code)))))) else (bif Nat.blt y 339 then (bif Nat.blt y 327 then (bif Nat.blt y 321 then (bif Nat.blt y 318 then (bif Nat.blt y 317 then prog_14_method_124_code else prog_14_method_125_code) else (bif Nat.blt y 319 then prog_4_method_5_code else (bif Nat.blt y 320 then prog_4_method_6_code else prog_4_method_18_code))) else (bif Nat.blt y 324 then (bif Nat.blt y 322 then prog_4_method_7_code else (bif Nat.blt y 323 then prog_4_method_8_code else prog_4_method_11_code)) else (bif Nat.blt y 325 then prog_4_method_12_code else (bif Nat.blt y 326 then prog_7_method_20_code else prog_4_method_14_code)))) else (bif Nat.blt y 333 then (bif Nat.blt y 330 then (bif Nat.blt y 328 then prog_4_method_13_code else (bif Nat.blt y 329 then prog_4_method_10_code else prog_4_method_15_code)) else (bif Nat.blt y 331 then prog_4_method_16_code else (bif Nat.blt y 332 then prog_4_method_9_code else prog_4_method_17_code))) else (bif Nat.blt y 336 then (bif Nat.blt y 334 then prog_4_method_2_code else (bif Nat.blt y 335 then prog_1_method_63_code else prog_14_method_127_code)) else (bif Nat.blt y 337 then prog_14_method_131_code else (bif Nat.blt y 338 then prog_14_method_128_code else prog_14_method_126_code))))) else (bif Nat.blt y 350 then (bif Nat.blt y 344 then (bif Nat.blt y 341 then (bif Nat.blt y 340 then prog_14_method_130_code else prog_14_method_132_code) else (bif Nat.blt y 342 then prog_14_method_129_code else (bif Nat.blt y 343 then prog_14_method_134_code else prog_14_method_133_code))) else (bif Nat.blt y 347 then (bif Nat.blt y 345 then prog_14_method_135_code else (bif Nat.blt y 346 then prog_14_method_136_code else prog_14_method_137_code)) else (bif Nat.blt y 348 then prog_4_method_3_code else (bif Nat.blt y 349 then prog_1_method_64_code else prog_14_method_138_code)))) else (bif Nat.blt y 356 then (bif Nat.blt y 353 then (bif Nat.blt y 351 then prog_4_method_4_code else (bif Nat.blt y 352 then prog_1_method_65_code else prog_14_method_139_code)) else (bif Nat.blt y 354 then prog_1_method_66_code else (bif Nat.blt y 355 then prog_14_method_141_code else prog_14_method_142_code))) else (bif Nat.blt y 359 then (bif Nat.blt y 357 then prog_1_method_67_code else (bif Nat.blt y 358 then prog_14_method_143_code else prog_14_method_144_code)) else (bif Nat.blt y 360 then prog_1_method_68_code else (bif Nat.blt y 361 then prog_14_method_145_code else code)))))))))
set_option maxRecDepth 4000 in
noncomputable def ij_rt (y : Nat) : Option FieldType := (bif Nat.blt y 181 then (bif Nat.blt y 90 then (bif Nat.blt y 45 then (bif Nat.blt y 22 then (bif Nat.blt y 11 then (bif Nat.blt y 5 then (bif Nat.blt y 2 then (bif Nat.blt y 1 then none else none) else (bif Nat.blt y 3 then none else (bif Nat.blt y 4 then (some .boolean) else (some .int)))) else (bif Nat.blt y 8 then (bif Nat.blt y 6 then (some .int) else (bif Nat.blt y 7 then (some .long) else (some .long))) else (bif Nat.blt y 9 then (some .long) else (bif Nat.blt y 10 then none else none)))) else (bif Nat.blt y 16 then (bif Nat.blt y 13 then (bif Nat.blt y 12 then none else none) else (bif Nat.blt y 14 then none else (bif Nat.blt y 15 then none else none))) else (bif Nat.blt y 19 then (bif Nat.blt y 17 then none else (bif Nat.blt y 18 then none else none)) else (bif Nat.blt y 20 then none else (bif Nat.blt y 21 then none else (some .int)))))) else (bif Nat.blt y 33 then (bif Nat.blt y 27 then (bif Nat.blt y 24 then (bif Nat.blt y 23 then (some .int) else (some .long)) else (bif Nat.blt y 25 then (some .long) else (bif Nat.blt y 26 then (some .long) else (some .long)))) else (bif Nat.blt y 30 then (bif Nat.blt y 28 then (some (.object "ScaleForge$Tray")) else (bif Nat.blt y 29 then (some .boolean) else none)) else (bif Nat.blt y 31 then (some .boolean) else (bif Nat.blt y 32 then (some .boolean) else (some .boolean))))) else (bif Nat.blt y 39 then (bif Nat.blt y 36 then (bif Nat.blt y 34 then (some .boolean) else (bif Nat.blt y 35 then (some .boolean) else (some .boolean))) else (bif Nat.blt y 37 then (some .boolean) else (bif Nat.blt y 38 then (some .int) else (some .long)))) else (bif Nat.blt y 42 then (bif Nat.blt y 40 then none else (bif Nat.blt y 41 then (some .boolean) else (some .int))) else (bif Nat.blt y 43 then (some .long) else (bif Nat.blt y 44 then (some .boolean) else (some .int))))))) else (bif Nat.blt y 67 then (bif Nat.blt y 56 then (bif Nat.blt y 50 then (bif Nat.blt y 47 then (bif Nat.blt y 46 then (some .long) else (some .long)) else (bif Nat.blt y 48 then (some .long) else (bif Nat.blt y 49 then (some .boolean) else (some .boolean)))) else (bif Nat.blt y 53 then (bif Nat.blt y 51 then (some .boolean) else (bif Nat.blt y 52 then none else (some .int))) else (bif Nat.blt y 54 then none else (bif Nat.blt y 55 then (some .int) else none)))) else (bif Nat.blt y 61 then (bif Nat.blt y 58 then (bif Nat.blt y 57 then (some .int) else (some .boolean)) else (bif Nat.blt y 59 then (some .boolean) else (bif Nat.blt y 60 then none else (some .boolean)))) else (bif Nat.blt y 64 then (bif Nat.blt y 62 then none else (bif Nat.blt y 63 then (some .boolean) else (some .boolean))) else (bif Nat.blt y 65 then (some .boolean) else (bif Nat.blt y 66 then (some .byte) else (some .int)))))) else (bif Nat.blt y 78 then (bif Nat.blt y 72 then (bif Nat.blt y 69 then (bif Nat.blt y 68 then (some .boolean) else (some .int)) else (bif Nat.blt y 70 then none else (bif Nat.blt y 71 then (some .char) else (some .char)))) else (bif Nat.blt y 75 then (bif Nat.blt y 73 then (some .boolean) else (bif Nat.blt y 74 then (some .int) else (some .boolean))) else (bif Nat.blt y 76 then (some .boolean) else (bif Nat.blt y 77 then (some .boolean) else (some .boolean))))) else (bif Nat.blt y 84 then (bif Nat.blt y 81 then (bif Nat.blt y 79 then (some .boolean) else (bif Nat.blt y 80 then (some .int) else (some .int))) else (bif Nat.blt y 82 then (some .int) else (bif Nat.blt y 83 then (some .boolean) else none))) else (bif Nat.blt y 87 then (bif Nat.blt y 85 then (some .boolean) else (bif Nat.blt y 86 then (some .boolean) else (some .boolean))) else (bif Nat.blt y 88 then none else (bif Nat.blt y 89 then (some .int) else (some .int)))))))) else (bif Nat.blt y 135 then (bif Nat.blt y 112 then (bif Nat.blt y 101 then (bif Nat.blt y 95 then (bif Nat.blt y 92 then (bif Nat.blt y 91 then (some .int) else (some .int)) else (bif Nat.blt y 93 then (some .int) else (bif Nat.blt y 94 then (some .boolean) else (some .boolean)))) else (bif Nat.blt y 98 then (bif Nat.blt y 96 then (some .int) else (bif Nat.blt y 97 then none else (some .boolean))) else (bif Nat.blt y 99 then (some .int) else (bif Nat.blt y 100 then (some .int) else (some .boolean))))) else (bif Nat.blt y 106 then (bif Nat.blt y 103 then (bif Nat.blt y 102 then (some .boolean) else (some .boolean)) else (bif Nat.blt y 104 then (some .boolean) else (bif Nat.blt y 105 then (some .boolean) else (some .boolean)))) else (bif Nat.blt y 109 then (bif Nat.blt y 107 then (some .int) else (bif Nat.blt y 108 then (some .int) else (some .boolean))) else (bif Nat.blt y 110 then (some .boolean) else (bif Nat.blt y 111 then none else (some .int)))))) else (bif Nat.blt y 123 then (bif Nat.blt y 117 then (bif Nat.blt y 114 then (bif Nat.blt y 113 then (some .int) else none) else (bif Nat.blt y 115 then none else (bif Nat.blt y 116 then (some .int) else (some .int)))) else (bif Nat.blt y 120 then (bif Nat.blt y 118 then (some .int) else (bif Nat.blt y 119 then (some .boolean) else (some .boolean))) else (bif Nat.blt y 121 then (some .int) else (bif Nat.blt y 122 then (some .int) else (some .int))))) else (bif Nat.blt y 129 then (bif Nat.blt y 126 then (bif Nat.blt y 124 then (some .boolean) else (bif Nat.blt y 125 then (some .int) else (some .boolean))) else (bif Nat.blt y 127 then (some .boolean) else (bif Nat.blt y 128 then none else (some .int)))) else (bif Nat.blt y 132 then (bif Nat.blt y 130 then (some .boolean) else (bif Nat.blt y 131 then (some .boolean) else (some .boolean))) else (bif Nat.blt y 133 then (some .int) else (bif Nat.blt y 134 then (some .int) else (some .int))))))) else (bif Nat.blt y 158 then (bif Nat.blt y 146 then (bif Nat.blt y 140 then (bif Nat.blt y 137 then (bif Nat.blt y 136 then (some .int) else none) else (bif Nat.blt y 138 then (some (.object "ScaleForge$Ring")) else (bif Nat.blt y 139 then (some .int) else (some .int)))) else (bif Nat.blt y 143 then (bif Nat.blt y 141 then (some .int) else (bif Nat.blt y 142 then (some .long) else (some .int))) else (bif Nat.blt y 144 then (some .int) else (bif Nat.blt y 145 then (some .int) else (some .int))))) else (bif Nat.blt y 152 then (bif Nat.blt y 149 then (bif Nat.blt y 147 then (some .boolean) else (bif Nat.blt y 148 then (some .int) else (some .int))) else (bif Nat.blt y 150 then (some .boolean) else (bif Nat.blt y 151 then (some .int) else (some .boolean)))) else (bif Nat.blt y 155 then (bif Nat.blt y 153 then (some .int) else (bif Nat.blt y 154 then (some .boolean) else (some .int))) else (bif Nat.blt y 156 then (some .boolean) else (bif Nat.blt y 157 then (some .int) else (some .int)))))) else (bif Nat.blt y 169 then (bif Nat.blt y 163 then (bif Nat.blt y 160 then (bif Nat.blt y 159 then (some .boolean) else (some .int)) else (bif Nat.blt y 161 then (some .int) else (bif Nat.blt y 162 then (some .int) else (some .int)))) else (bif Nat.blt y 166 then (bif Nat.blt y 164 then (some .int) else (bif Nat.blt y 165 then (some .int) else (some .int))) else (bif Nat.blt y 167 then (some .int) else (bif Nat.blt y 168 then (some .int) else (some .int))))) else (bif Nat.blt y 175 then (bif Nat.blt y 172 then (bif Nat.blt y 170 then (some .boolean) else (bif Nat.blt y 171 then (some .int) else (some .int))) else (bif Nat.blt y 173 then (some .int) else (bif Nat.blt y 174 then (some .int) else (some .int)))) else (bif Nat.blt y 178 then (bif Nat.blt y 176 then (some .boolean) else (bif Nat.blt y 177 then (some .int) else (some .int))) else (bif Nat.blt y 179 then (some .boolean) else (bif Nat.blt y 180 then (some .int) else (some .boolean))))))))) else (bif Nat.blt y 271 then (bif Nat.blt y 226 then (bif Nat.blt y 203 then (bif Nat.blt y 192 then (bif Nat.blt y 186 then (bif Nat.blt y 183 then (bif Nat.blt y 182 then (some .int) else (some .boolean)) else (bif Nat.blt y 184 then (some .int) else (bif Nat.blt y 185 then (some .boolean) else (some .int)))) else (bif Nat.blt y 189 then (bif Nat.blt y 187 then (some .int) else (bif Nat.blt y 188 then (some .int) else (some .long))) else (bif Nat.blt y 190 then (some .int) else (bif Nat.blt y 191 then (some .int) else none)))) else (bif Nat.blt y 197 then (bif Nat.blt y 194 then (bif Nat.blt y 193 then none else (some .int)) else (bif Nat.blt y 195 then (some .int) else (bif Nat.blt y 196 then (some .int) else (some .int)))) else (bif Nat.blt y 200 then (bif Nat.blt y 198 then (some .int) else (bif Nat.blt y 199 then (some .int) else (some .int))) else (bif Nat.blt y 201 then (some .int) else (bif Nat.blt y 202 then (some .int) else (some .int)))))) else (bif Nat.blt y 214 then (bif Nat.blt y 208 then (bif Nat.blt y 205 then (bif Nat.blt y 204 then (some .int) else (some .int)) else (bif Nat.blt y 206 then (some .int) else (bif Nat.blt y 207 then (some .int) else (some .int)))) else (bif Nat.blt y 211 then (bif Nat.blt y 209 then (some .int) else (bif Nat.blt y 210 then (some .long) else (some .int))) else (bif Nat.blt y 212 then (some .int) else (bif Nat.blt y 213 then (some .int) else (some .int))))) else (bif Nat.blt y 220 then (bif Nat.blt y 217 then (bif Nat.blt y 215 then (some .int) else (bif Nat.blt y 216 then (some .long) else (some .int))) else (bif Nat.blt y 218 then (some .boolean) else (bif Nat.blt y 219 then (some .int) else (some .int)))) else (bif Nat.blt y 223 then (bif Nat.blt y 221 then (some .int) else (bif Nat.blt y 222 then (some .int) else (some .int))) else (bif Nat.blt y 224 then (some .int) else (bif Nat.blt y 225 then (some .int) else (some .int))))))) else (bif Nat.blt y 248 then (bif Nat.blt y 237 then (bif Nat.blt y 231 then (bif Nat.blt y 228 then (bif Nat.blt y 227 then (some .int) else (some .int)) else (bif Nat.blt y 229 then (some .int) else (bif Nat.blt y 230 then (some .int) else (some .int)))) else (bif Nat.blt y 234 then (bif Nat.blt y 232 then (some .int) else (bif Nat.blt y 233 then (some .int) else (some .int))) else (bif Nat.blt y 235 then (some .int) else (bif Nat.blt y 236 then (some .int) else (some .int))))) else (bif Nat.blt y 242 then (bif Nat.blt y 239 then (bif Nat.blt y 238 then (some .int) else (some .int)) else (bif Nat.blt y 240 then (some .int) else (bif Nat.blt y 241 then (some .int) else none))) else (bif Nat.blt y 245 then (bif Nat.blt y 243 then (some .int) else (bif Nat.blt y 244 then (some .int) else (some .int))) else (bif Nat.blt y 246 then (some .int) else (bif Nat.blt y 247 then (some .int) else (some .int)))))) else (bif Nat.blt y 259 then (bif Nat.blt y 253 then (bif Nat.blt y 250 then (bif Nat.blt y 249 then (some .int) else (some .int)) else (bif Nat.blt y 251 then (some .int) else (bif Nat.blt y 252 then (some .int) else (some .int)))) else (bif Nat.blt y 256 then (bif Nat.blt y 254 then (some .int) else (bif Nat.blt y 255 then (some .int) else (some .int))) else (bif Nat.blt y 257 then (some .int) else (bif Nat.blt y 258 then (some .int) else (some .int))))) else (bif Nat.blt y 265 then (bif Nat.blt y 262 then (bif Nat.blt y 260 then (some .int) else (bif Nat.blt y 261 then (some .int) else (some .int))) else (bif Nat.blt y 263 then (some .long) else (bif Nat.blt y 264 then none else (some .int)))) else (bif Nat.blt y 268 then (bif Nat.blt y 266 then (some .int) else (bif Nat.blt y 267 then (some .int) else (some .int))) else (bif Nat.blt y 269 then (some .int) else (bif Nat.blt y 270 then (some .int) else (some .int)))))))) else (bif Nat.blt y 316 then (bif Nat.blt y 293 then (bif Nat.blt y 282 then (bif Nat.blt y 276 then (bif Nat.blt y 273 then (bif Nat.blt y 272 then (some .int) else (some .int)) else (bif Nat.blt y 274 then (some .int) else (bif Nat.blt y 275 then (some .int) else (some .int)))) else (bif Nat.blt y 279 then (bif Nat.blt y 277 then (some .int) else (bif Nat.blt y 278 then (some .int) else (some .int))) else (bif Nat.blt y 280 then (some .int) else (bif Nat.blt y 281 then none else none)))) else (bif Nat.blt y 287 then (bif Nat.blt y 284 then (bif Nat.blt y 283 then none else (some .int)) else (bif Nat.blt y 285 then (some .int) else (bif Nat.blt y 286 then none else (some .int)))) else (bif Nat.blt y 290 then (bif Nat.blt y 288 then (some .boolean) else (bif Nat.blt y 289 then (some .int) else (some .int))) else (bif Nat.blt y 291 then (some .int) else (bif Nat.blt y 292 then (some .int) else (some .int)))))) else (bif Nat.blt y 304 then (bif Nat.blt y 298 then (bif Nat.blt y 295 then (bif Nat.blt y 294 then (some .long) else (some .int)) else (bif Nat.blt y 296 then (some .int) else (bif Nat.blt y 297 then (some .int) else (some .int)))) else (bif Nat.blt y 301 then (bif Nat.blt y 299 then (some .int) else (bif Nat.blt y 300 then (some .int) else (some .long))) else (bif Nat.blt y 302 then (some .boolean) else (bif Nat.blt y 303 then (some .boolean) else (some .boolean))))) else (bif Nat.blt y 310 then (bif Nat.blt y 307 then (bif Nat.blt y 305 then (some .boolean) else (bif Nat.blt y 306 then (some .boolean) else (some .boolean))) else (bif Nat.blt y 308 then (some .boolean) else (bif Nat.blt y 309 then (some .boolean) else (some .boolean)))) else (bif Nat.blt y 313 then (bif Nat.blt y 311 then (some .boolean) else (bif Nat.blt y 312 then (some .int) else (some .int))) else (bif Nat.blt y 314 then (some .int) else (bif Nat.blt y 315 then (some .boolean) else (some .int))))))) else (bif Nat.blt y 339 then (bif Nat.blt y 327 then (bif Nat.blt y 321 then (bif Nat.blt y 318 then (bif Nat.blt y 317 then (some .boolean) else (some .int)) else (bif Nat.blt y 319 then (some .int) else (bif Nat.blt y 320 then (some .boolean) else none))) else (bif Nat.blt y 324 then (bif Nat.blt y 322 then none else (bif Nat.blt y 323 then (some .boolean) else (some .boolean))) else (bif Nat.blt y 325 then none else (bif Nat.blt y 326 then (some .boolean) else (some .int))))) else (bif Nat.blt y 333 then (bif Nat.blt y 330 then (bif Nat.blt y 328 then none else (bif Nat.blt y 329 then none else (some .boolean))) else (bif Nat.blt y 331 then none else (bif Nat.blt y 332 then none else none))) else (bif Nat.blt y 336 then (bif Nat.blt y 334 then none else (bif Nat.blt y 335 then (some .int) else (some .boolean))) else (bif Nat.blt y 337 then (some .boolean) else (bif Nat.blt y 338 then (some .boolean) else (some .int)))))) else (bif Nat.blt y 350 then (bif Nat.blt y 344 then (bif Nat.blt y 341 then (bif Nat.blt y 340 then (some .boolean) else (some .boolean)) else (bif Nat.blt y 342 then none else (bif Nat.blt y 343 then (some .int) else (some .boolean)))) else (bif Nat.blt y 347 then (bif Nat.blt y 345 then (some .int) else (bif Nat.blt y 346 then none else (some .int))) else (bif Nat.blt y 348 then (some .int) else (bif Nat.blt y 349 then (some .int) else (some .int))))) else (bif Nat.blt y 356 then (bif Nat.blt y 353 then (bif Nat.blt y 351 then (some .int) else (bif Nat.blt y 352 then (some .int) else (some .int))) else (bif Nat.blt y 354 then (some .boolean) else (bif Nat.blt y 355 then none else (some .boolean)))) else (bif Nat.blt y 359 then (bif Nat.blt y 357 then (some .int) else (bif Nat.blt y 358 then none else (some .int))) else (bif Nat.blt y 360 then (some .int) else (bif Nat.blt y 361 then (some .int) else (some .boolean))))))))))
set_option maxRecDepth 4000 in
noncomputable def ij_fr (y : Nat) : Nat := (bif Nat.blt y 181 then (bif Nat.blt y 90 then (bif Nat.blt y 45 then (bif Nat.blt y 22 then (bif Nat.blt y 11 then (bif Nat.blt y 5 then (bif Nat.blt y 2 then (bif Nat.blt y 1 then 1 else 1) else (bif Nat.blt y 3 then 1 else (bif Nat.blt y 4 then 0 else 0))) else (bif Nat.blt y 8 then (bif Nat.blt y 6 then 1 else (bif Nat.blt y 7 then 0 else 1)) else (bif Nat.blt y 9 then 2 else (bif Nat.blt y 10 then 3 else 4)))) else (bif Nat.blt y 16 then (bif Nat.blt y 13 then (bif Nat.blt y 12 then 5 else 1) else (bif Nat.blt y 14 then 2 else (bif Nat.blt y 15 then 1 else 1))) else (bif Nat.blt y 19 then (bif Nat.blt y 17 then 1 else (bif Nat.blt y 18 then 1 else 6)) else (bif Nat.blt y 20 then 0 else (bif Nat.blt y 21 then 1 else 0))))) else (bif Nat.blt y 33 then (bif Nat.blt y 27 then (bif Nat.blt y 24 then (bif Nat.blt y 23 then 0 else 0) else (bif Nat.blt y 25 then 0 else (bif Nat.blt y 26 then 0 else 0))) else (bif Nat.blt y 30 then (bif Nat.blt y 28 then 0 else (bif Nat.blt y 29 then 0 else 0)) else (bif Nat.blt y 31 then 0 else (bif Nat.blt y 32 then 1 else 0)))) else (bif Nat.blt y 39 then (bif Nat.blt y 36 then (bif Nat.blt y 34 then 0 else (bif Nat.blt y 35 then 1 else 0)) else (bif Nat.blt y 37 then 0 else (bif Nat.blt y 38 then 1 else 0))) else (bif Nat.blt y 42 then (bif Nat.blt y 40 then 1 else (bif Nat.blt y 41 then 2 else 1)) else (bif Nat.blt y 43 then 0 else (bif Nat.blt y 44 then 2 else 0)))))) else (bif Nat.blt y 67 then (bif Nat.blt y 56 then (bif Nat.blt y 50 then (bif Nat.blt y 47 then (bif Nat.blt y 46 then 1 else 2) else (bif Nat.blt y 48 then 2 else (bif Nat.blt y 49 then 0 else 1))) else (bif Nat.blt y 53 then (bif Nat.blt y 51 then 1 else (bif Nat.blt y 52 then 0 else 1)) else (bif Nat.blt y 54 then 0 else (bif Nat.blt y 55 then 1 else 0)))) else (bif Nat.blt y 61 then (bif Nat.blt y 58 then (bif Nat.blt y 57 then 0 else 0) else (bif Nat.blt y 59 then 0 else (bif Nat.blt y 60 then 1 else 0))) else (bif Nat.blt y 64 then (bif Nat.blt y 62 then 1 else (bif Nat.blt y 63 then 0 else 0)) else (bif Nat.blt y 65 then 2 else (bif Nat.blt y 66 then 0 else 1))))) else (bif Nat.blt y 78 then (bif Nat.blt y 72 then (bif Nat.blt y 69 then (bif Nat.blt y 68 then 0 else 0) else (bif Nat.blt y 70 then 1 else (bif Nat.blt y 71 then 2 else 3))) else (bif Nat.blt y 75 then (bif Nat.blt y 73 then 4 else (bif Nat.blt y 74 then 5 else 0)) else (bif Nat.blt y 76 then 1 else (bif Nat.blt y 77 then 0 else 0)))) else (bif Nat.blt y 84 then (bif Nat.blt y 81 then (bif Nat.blt y 79 then 3 else (bif Nat.blt y 80 then 0 else 0)) else (bif Nat.blt y 82 then 1 else (bif Nat.blt y 83 then 3 else 0))) else (bif Nat.blt y 87 then (bif Nat.blt y 85 then 3 else (bif Nat.blt y 86 then 4 else 6)) else (bif Nat.blt y 88 then 1 else (bif Nat.blt y 89 then 0 else 1))))))) else (bif Nat.blt y 135 then (bif Nat.blt y 112 then (bif Nat.blt y 101 then (bif Nat.blt y 95 then (bif Nat.blt y 92 then (bif Nat.blt y 91 then 0 else 7) else (bif Nat.blt y 93 then 0 else (bif Nat.blt y 94 then 0 else 0))) else (bif Nat.blt y 98 then (bif Nat.blt y 96 then 0 else (bif Nat.blt y 97 then 1 else 2)) else (bif Nat.blt y 99 then 0 else (bif Nat.blt y 100 then 4 else 0)))) else (bif Nat.blt y 106 then (bif Nat.blt y 103 then (bif Nat.blt y 102 then 0 else 2) else (bif Nat.blt y 104 then 3 else (bif Nat.blt y 105 then 0 else 2))) else (bif Nat.blt y 109 then (bif Nat.blt y 107 then 0 else (bif Nat.blt y 108 then 0 else 5)) else (bif Nat.blt y 110 then 0 else (bif Nat.blt y 111 then 1 else 0))))) else (bif Nat.blt y 123 then (bif Nat.blt y 117 then (bif Nat.blt y 114 then (bif Nat.blt y 113 then 1 else 2) else (bif Nat.blt y 115 then 3 else (bif Nat.blt y 116 then 0 else 1))) else (bif Nat.blt y 120 then (bif Nat.blt y 118 then 6 else (bif Nat.blt y 119 then 0 else 4)) else (bif Nat.blt y 121 then 5 else (bif Nat.blt y 122 then 1 else 5)))) else (bif Nat.blt y 129 then (bif Nat.blt y 126 then (bif Nat.blt y 124 then 6 else (bif Nat.blt y 125 then 0 else 7)) else (bif Nat.blt y 127 then 8 else (bif Nat.blt y 128 then 1 else 9))) else (bif Nat.blt y 132 then (bif Nat.blt y 130 then 5 else (bif Nat.blt y 131 then 6 else 7)) else (bif Nat.blt y 133 then 8 else (bif Nat.blt y 134 then 0 else 0)))))) else (bif Nat.blt y 158 then (bif Nat.blt y 146 then (bif Nat.blt y 140 then (bif Nat.blt y 137 then (bif Nat.blt y 136 then 0 else 1) else (bif Nat.blt y 138 then 2 else (bif Nat.blt y 139 then 0 else 1))) else (bif Nat.blt y 143 then (bif Nat.blt y 141 then 2 else (bif Nat.blt y 142 then 3 else 4)) else (bif Nat.blt y 144 then 0 else (bif Nat.blt y 145 then 1 else 4)))) else (bif Nat.blt y 152 then (bif Nat.blt y 149 then (bif Nat.blt y 147 then 0 else (bif Nat.blt y 148 then 2 else 3)) else (bif Nat.blt y 150 then 0 else (bif Nat.blt y 151 then 2 else 2))) else (bif Nat.blt y 155 then (bif Nat.blt y 153 then 3 else (bif Nat.blt y 154 then 4 else 5)) else (bif Nat.blt y 156 then 1 else (bif Nat.blt y 157 then 1 else 2))))) else (bif Nat.blt y 169 then (bif Nat.blt y 163 then (bif Nat.blt y 160 then (bif Nat.blt y 159 then 0 else 1) else (bif Nat.blt y 161 then 4 else (bif Nat.blt y 162 then 3 else 5))) else (bif Nat.blt y 166 then (bif Nat.blt y 164 then 3 else (bif Nat.blt y 165 then 0 else 5)) else (bif Nat.blt y 167 then 1 else (bif Nat.blt y 168 then 1 else 4)))) else (bif Nat.blt y 175 then (bif Nat.blt y 172 then (bif Nat.blt y 170 then 4 else (bif Nat.blt y 171 then 5 else 3)) else (bif Nat.blt y 173 then 4 else (bif Nat.blt y 174 then 0 else 5))) else (bif Nat.blt y 178 then (bif Nat.blt y 176 then 2 else (bif Nat.blt y 177 then 4 else 4)) else (bif Nat.blt y 179 then 1 else (bif Nat.blt y 180 then 2 else 1)))))))) else (bif Nat.blt y 271 then (bif Nat.blt y 226 then (bif Nat.blt y 203 then (bif Nat.blt y 192 then (bif Nat.blt y 186 then (bif Nat.blt y 183 then (bif Nat.blt y 182 then 2 else 1) else (bif Nat.blt y 184 then 2 else (bif Nat.blt y 185 then 1 else 2))) else (bif Nat.blt y 189 then (bif Nat.blt y 187 then 1 else (bif Nat.blt y 188 then 4 else 2)) else (bif Nat.blt y 190 then 1 else (bif Nat.blt y 191 then 3 else 0)))) else (bif Nat.blt y 197 then (bif Nat.blt y 194 then (bif Nat.blt y 193 then 2 else 1) else (bif Nat.blt y 195 then 3 else (bif Nat.blt y 196 then 4 else 4))) else (bif Nat.blt y 200 then (bif Nat.blt y 198 then 4 else (bif Nat.blt y 199 then 2 else 1)) else (bif Nat.blt y 201 then 0 else (bif Nat.blt y 202 then 2 else 1))))) else (bif Nat.blt y 214 then (bif Nat.blt y 208 then (bif Nat.blt y 205 then (bif Nat.blt y 204 then 2 else 3) else (bif Nat.blt y 206 then 1 else (bif Nat.blt y 207 then 4 else 3))) else (bif Nat.blt y 211 then (bif Nat.blt y 209 then 4 else (bif Nat.blt y 210 then 4 else 5)) else (bif Nat.blt y 212 then 3 else (bif Nat.blt y 213 then 4 else 5)))) else (bif Nat.blt y 220 then (bif Nat.blt y 217 then (bif Nat.blt y 215 then 4 else (bif Nat.blt y 216 then 3 else 4)) else (bif Nat.blt y 218 then 0 else (bif Nat.blt y 219 then 4 else 4))) else (bif Nat.blt y 223 then (bif Nat.blt y 221 then 5 else (bif Nat.blt y 222 then 2 else 3)) else (bif Nat.blt y 224 then 1 else (bif Nat.blt y 225 then 5 else 0)))))) else (bif Nat.blt y 248 then (bif Nat.blt y 237 then (bif Nat.blt y 231 then (bif Nat.blt y 228 then (bif Nat.blt y 227 then 3 else 5) else (bif Nat.blt y 229 then 1 else (bif Nat.blt y 230 then 2 else 1))) else (bif Nat.blt y 234 then (bif Nat.blt y 232 then 2 else (bif Nat.blt y 233 then 0 else 1)) else (bif Nat.blt y 235 then 2 else (bif Nat.blt y 236 then 2 else 3)))) else (bif Nat.blt y 242 then (bif Nat.blt y 239 then (bif Nat.blt y 238 then 3 else 2) else (bif Nat.blt y 240 then 0 else (bif Nat.blt y 241 then 3 else 3))) else (bif Nat.blt y 245 then (bif Nat.blt y 243 then 4 else (bif Nat.blt y 244 then 3 else 4)) else (bif Nat.blt y 246 then 2 else (bif Nat.blt y 247 then 3 else 1))))) else (bif Nat.blt y 259 then (bif Nat.blt y 253 then (bif Nat.blt y 250 then (bif Nat.blt y 249 then 2 else 3) else (bif Nat.blt y 251 then 2 else (bif Nat.blt y 252 then 3 else 2))) else (bif Nat.blt y 256 then (bif Nat.blt y 254 then 3 else (bif Nat.blt y 255 then 3 else 3)) else (bif Nat.blt y 257 then 2 else (bif Nat.blt y 258 then 4 else 2)))) else (bif Nat.blt y 265 then (bif Nat.blt y 262 then (bif Nat.blt y 260 then 4 else (bif Nat.blt y 261 then 3 else 3)) else (bif Nat.blt y 263 then 3 else (bif Nat.blt y 264 then 4 else 5))) else (bif Nat.blt y 268 then (bif Nat.blt y 266 then 3 else (bif Nat.blt y 267 then 4 else 5)) else (bif Nat.blt y 269 then 4 else (bif Nat.blt y 270 then 1 else 0))))))) else (bif Nat.blt y 316 then (bif Nat.blt y 293 then (bif Nat.blt y 282 then (bif Nat.blt y 276 then (bif Nat.blt y 273 then (bif Nat.blt y 272 then 2 else 5) else (bif Nat.blt y 274 then 4 else (bif Nat.blt y 275 then 3 else 4))) else (bif Nat.blt y 279 then (bif Nat.blt y 277 then 1 else (bif Nat.blt y 278 then 0 else 2)) else (bif Nat.blt y 280 then 3 else (bif Nat.blt y 281 then 0 else 3)))) else (bif Nat.blt y 287 then (bif Nat.blt y 284 then (bif Nat.blt y 283 then 4 else 1) else (bif Nat.blt y 285 then 5 else (bif Nat.blt y 286 then 0 else 1))) else (bif Nat.blt y 290 then (bif Nat.blt y 288 then 2 else (bif Nat.blt y 289 then 3 else 0)) else (bif Nat.blt y 291 then 5 else (bif Nat.blt y 292 then 3 else 1))))) else (bif Nat.blt y 304 then (bif Nat.blt y 298 then (bif Nat.blt y 295 then (bif Nat.blt y 294 then 1 else 2) else (bif Nat.blt y 296 then 3 else (bif Nat.blt y 297 then 4 else 1))) else (bif Nat.blt y 301 then (bif Nat.blt y 299 then 0 else (bif Nat.blt y 300 then 1 else 0)) else (bif Nat.blt y 302 then 1 else (bif Nat.blt y 303 then 2 else 1)))) else (bif Nat.blt y 310 then (bif Nat.blt y 307 then (bif Nat.blt y 305 then 2 else (bif Nat.blt y 306 then 4 else 4)) else (bif Nat.blt y 308 then 4 else (bif Nat.blt y 309 then 5 else 2))) else (bif Nat.blt y 313 then (bif Nat.blt y 311 then 2 else (bif Nat.blt y 312 then 1 else 3)) else (bif Nat.blt y 314 then 4 else (bif Nat.blt y 315 then 2 else 3)))))) else (bif Nat.blt y 339 then (bif Nat.blt y 327 then (bif Nat.blt y 321 then (bif Nat.blt y 318 then (bif Nat.blt y 317 then 0 else 4) else (bif Nat.blt y 319 then 0 else (bif Nat.blt y 320 then 1 else 2))) else (bif Nat.blt y 324 then (bif Nat.blt y 322 then 3 else (bif Nat.blt y 323 then 1 else 2)) else (bif Nat.blt y 325 then 2 else (bif Nat.blt y 326 then 3 else 0)))) else (bif Nat.blt y 333 then (bif Nat.blt y 330 then (bif Nat.blt y 328 then 3 else (bif Nat.blt y 329 then 0 else 2)) else (bif Nat.blt y 331 then 1 else (bif Nat.blt y 332 then 4 else 3))) else (bif Nat.blt y 336 then (bif Nat.blt y 334 then 5 else (bif Nat.blt y 335 then 6 else 0)) else (bif Nat.blt y 337 then 1 else (bif Nat.blt y 338 then 2 else 0))))) else (bif Nat.blt y 350 then (bif Nat.blt y 344 then (bif Nat.blt y 341 then (bif Nat.blt y 340 then 2 else 3) else (bif Nat.blt y 342 then 2 else (bif Nat.blt y 343 then 3 else 4))) else (bif Nat.blt y 347 then (bif Nat.blt y 345 then 5 else (bif Nat.blt y 346 then 6 else 7)) else (bif Nat.blt y 348 then 0 else (bif Nat.blt y 349 then 1 else 1)))) else (bif Nat.blt y 356 then (bif Nat.blt y 353 then (bif Nat.blt y 351 then 0 else (bif Nat.blt y 352 then 2 else 1)) else (bif Nat.blt y 354 then 6 else (bif Nat.blt y 355 then 0 else 7))) else (bif Nat.blt y 359 then (bif Nat.blt y 357 then 2 else (bif Nat.blt y 358 then 0 else 1)) else (bif Nat.blt y 360 then 2 else (bif Nat.blt y 361 then 1 else 10)))))))))
set_option maxRecDepth 4000 in
noncomputable def ij_lo (y : Nat) : Nat := (bif Nat.blt y 181 then (bif Nat.blt y 90 then (bif Nat.blt y 45 then (bif Nat.blt y 22 then (bif Nat.blt y 11 then (bif Nat.blt y 5 then (bif Nat.blt y 2 then (bif Nat.blt y 1 then 20 else 20) else (bif Nat.blt y 3 then 26 else (bif Nat.blt y 4 then 0 else 0))) else (bif Nat.blt y 8 then (bif Nat.blt y 6 then 22 else (bif Nat.blt y 7 then 0 else 20)) else (bif Nat.blt y 9 then 44 else (bif Nat.blt y 10 then 71 else 92)))) else (bif Nat.blt y 16 then (bif Nat.blt y 13 then (bif Nat.blt y 12 then 112 else 20) else (bif Nat.blt y 14 then 40 else (bif Nat.blt y 15 then 20 else 20))) else (bif Nat.blt y 19 then (bif Nat.blt y 17 then 20 else (bif Nat.blt y 18 then 20 else 133)) else (bif Nat.blt y 20 then 0 else (bif Nat.blt y 21 then 22 else 0))))) else (bif Nat.blt y 33 then (bif Nat.blt y 27 then (bif Nat.blt y 24 then (bif Nat.blt y 23 then 0 else 0) else (bif Nat.blt y 25 then 0 else (bif Nat.blt y 26 then 0 else 0))) else (bif Nat.blt y 30 then (bif Nat.blt y 28 then 0 else (bif Nat.blt y 29 then 0 else 0)) else (bif Nat.blt y 31 then 0 else (bif Nat.blt y 32 then 23 else 0)))) else (bif Nat.blt y 39 then (bif Nat.blt y 36 then (bif Nat.blt y 34 then 0 else (bif Nat.blt y 35 then 21 else 0)) else (bif Nat.blt y 37 then 0 else (bif Nat.blt y 38 then 21 else 0))) else (bif Nat.blt y 42 then (bif Nat.blt y 40 then 22 else (bif Nat.blt y 41 then 45 else 20)) else (bif Nat.blt y 43 then 0 else (bif Nat.blt y 44 then 42 else 0)))))) else (bif Nat.blt y 67 then (bif Nat.blt y 56 then (bif Nat.blt y 50 then (bif Nat.blt y 47 then (bif Nat.blt y 46 then 21 else 42) else (bif Nat.blt y 48 then 42 else (bif Nat.blt y 49 then 0 else 26))) else (bif Nat.blt y 53 then (bif Nat.blt y 51 then 21 else (bif Nat.blt y 52 then 0 else 22)) else (bif Nat.blt y 54 then 0 else (bif Nat.blt y 55 then 22 else 0)))) else (bif Nat.blt y 61 then (bif Nat.blt y 58 then (bif Nat.blt y 57 then 0 else 0) else (bif Nat.blt y 59 then 0 else (bif Nat.blt y 60 then 21 else 0))) else (bif Nat.blt y 64 then (bif Nat.blt y 62 then 21 else (bif Nat.blt y 63 then 0 else 0)) else (bif Nat.blt y 65 then 41 else (bif Nat.blt y 66 then 0 else 20))))) else (bif Nat.blt y 78 then (bif Nat.blt y 72 then (bif Nat.blt y 69 then (bif Nat.blt y 68 then 0 else 0) else (bif Nat.blt y 70 then 22 else (bif Nat.blt y 71 then 43 else 64))) else (bif Nat.blt y 75 then (bif Nat.blt y 73 then 85 else (bif Nat.blt y 74 then 107 else 0)) else (bif Nat.blt y 76 then 22 else (bif Nat.blt y 77 then 0 else 0)))) else (bif Nat.blt y 84 then (bif Nat.blt y 81 then (bif Nat.blt y 79 then 62 else (bif Nat.blt y 80 then 0 else 0)) else (bif Nat.blt y 82 then 20 else (bif Nat.blt y 83 then 62 else 0))) else (bif Nat.blt y 87 then (bif Nat.blt y 85 then 62 else (bif Nat.blt y 86 then 84 else 127)) else (bif Nat.blt y 88 then 26 else (bif Nat.blt y 89 then 0 else 21))))))) else (bif Nat.blt y 135 then (bif Nat.blt y 112 then (bif Nat.blt y 101 then (bif Nat.blt y 95 then (bif Nat.blt y 92 then (bif Nat.blt y 91 then 0 else 149) else (bif Nat.blt y 93 then 0 else (bif Nat.blt y 94 then 0 else 0))) else (bif Nat.blt y 98 then (bif Nat.blt y 96 then 0 else (bif Nat.blt y 97 then 21 else 42)) else (bif Nat.blt y 99 then 0 else (bif Nat.blt y 100 then 85 else 0)))) else (bif Nat.blt y 106 then (bif Nat.blt y 103 then (bif Nat.blt y 102 then 0 else 42) else (bif Nat.blt y 104 then 65 else (bif Nat.blt y 105 then 0 else 42))) else (bif Nat.blt y 109 then (bif Nat.blt y 107 then 0 else (bif Nat.blt y 108 then 0 else 111)) else (bif Nat.blt y 110 then 0 else (bif Nat.blt y 111 then 20 else 0))))) else (bif Nat.blt y 123 then (bif Nat.blt y 117 then (bif Nat.blt y 114 then (bif Nat.blt y 113 then 22 else 44) else (bif Nat.blt y 115 then 70 else (bif Nat.blt y 116 then 0 else 21))) else (bif Nat.blt y 120 then (bif Nat.blt y 118 then 133 else (bif Nat.blt y 119 then 0 else 82)) else (bif Nat.blt y 121 then 107 else (bif Nat.blt y 122 then 21 else 107)))) else (bif Nat.blt y 129 then (bif Nat.blt y 126 then (bif Nat.blt y 124 then 127 else (bif Nat.blt y 125 then 0 else 149)) else (bif Nat.blt y 127 then 173 else (bif Nat.blt y 128 then 26 else 196))) else (bif Nat.blt y 132 then (bif Nat.blt y 130 then 111 else (bif Nat.blt y 131 then 133 else 155)) else (bif Nat.blt y 133 then 181 else (bif Nat.blt y 134 then 0 else 0)))))) else (bif Nat.blt y 158 then (bif Nat.blt y 146 then (bif Nat.blt y 140 then (bif Nat.blt y 137 then (bif Nat.blt y 136 then 0 else 22) else (bif Nat.blt y 138 then 46 else (bif Nat.blt y 139 then 0 else 21))) else (bif Nat.blt y 143 then (bif Nat.blt y 141 then 44 else (bif Nat.blt y 142 then 66 else 89)) else (bif Nat.blt y 144 then 0 else (bif Nat.blt y 145 then 21 else 90)))) else (bif Nat.blt y 152 then (bif Nat.blt y 149 then (bif Nat.blt y 147 then 0 else (bif Nat.blt y 148 then 44 else 65)) else (bif Nat.blt y 150 then 0 else (bif Nat.blt y 151 then 44 else 41))) else (bif Nat.blt y 155 then (bif Nat.blt y 153 then 66 else (bif Nat.blt y 154 then 90 else 111)) else (bif Nat.blt y 156 then 22 else (bif Nat.blt y 157 then 21 else 43))))) else (bif Nat.blt y 169 then (bif Nat.blt y 163 then (bif Nat.blt y 160 then (bif Nat.blt y 159 then 0 else 21) else (bif Nat.blt y 161 then 90 else (bif Nat.blt y 162 then 66 else 111))) else (bif Nat.blt y 166 then (bif Nat.blt y 164 then 66 else (bif Nat.blt y 165 then 0 else 111)) else (bif Nat.blt y 167 then 22 else (bif Nat.blt y 168 then 21 else 89)))) else (bif Nat.blt y 175 then (bif Nat.blt y 172 then (bif Nat.blt y 170 then 90 else (bif Nat.blt y 171 then 111 else 66)) else (bif Nat.blt y 173 then 89 else (bif Nat.blt y 174 then 0 else 111))) else (bif Nat.blt y 178 then (bif Nat.blt y 176 then 41 else (bif Nat.blt y 177 then 92 else 90)) else (bif Nat.blt y 179 then 26 else (bif Nat.blt y 180 then 47 else 21)))))))) else (bif Nat.blt y 271 then (bif Nat.blt y 226 then (bif Nat.blt y 203 then (bif Nat.blt y 192 then (bif Nat.blt y 186 then (bif Nat.blt y 183 then (bif Nat.blt y 182 then 43 else 22) else (bif Nat.blt y 184 then 43 else (bif Nat.blt y 185 then 21 else 43))) else (bif Nat.blt y 189 then (bif Nat.blt y 187 then 21 else (bif Nat.blt y 188 then 90 else 40)) else (bif Nat.blt y 190 then 21 else (bif Nat.blt y 191 then 63 else 0)))) else (bif Nat.blt y 197 then (bif Nat.blt y 194 then (bif Nat.blt y 193 then 44 else 21) else (bif Nat.blt y 195 then 68 else (bif Nat.blt y 196 then 88 else 92))) else (bif Nat.blt y 200 then (bif Nat.blt y 198 then 90 else (bif Nat.blt y 199 then 46 else 21)) else (bif Nat.blt y 201 then 0 else (bif Nat.blt y 202 then 42 else 21))))) else (bif Nat.blt y 214 then (bif Nat.blt y 208 then (bif Nat.blt y 205 then (bif Nat.blt y 204 then 44 else 68) else (bif Nat.blt y 206 then 24 else (bif Nat.blt y 207 then 90 else 68))) else (bif Nat.blt y 211 then (bif Nat.blt y 209 then 90 else (bif Nat.blt y 210 then 89 else 114)) else (bif Nat.blt y 212 then 70 else (bif Nat.blt y 213 then 93 else 114)))) else (bif Nat.blt y 220 then (bif Nat.blt y 217 then (bif Nat.blt y 215 then 93 else (bif Nat.blt y 216 then 63 else 85)) else (bif Nat.blt y 218 then 0 else (bif Nat.blt y 219 then 90 else 85))) else (bif Nat.blt y 223 then (bif Nat.blt y 221 then 111 else (bif Nat.blt y 222 then 44 else 67)) else (bif Nat.blt y 224 then 24 else (bif Nat.blt y 225 then 111 else 0)))))) else (bif Nat.blt y 248 then (bif Nat.blt y 237 then (bif Nat.blt y 231 then (bif Nat.blt y 228 then (bif Nat.blt y 227 then 67 else 111) else (bif Nat.blt y 229 then 22 else (bif Nat.blt y 230 then 43 else 22))) else (bif Nat.blt y 234 then (bif Nat.blt y 232 then 43 else (bif Nat.blt y 233 then 0 else 22)) else (bif Nat.blt y 235 then 43 else (bif Nat.blt y 236 then 43 else 64)))) else (bif Nat.blt y 242 then (bif Nat.blt y 239 then (bif Nat.blt y 238 then 65 else 44) else (bif Nat.blt y 240 then 0 else (bif Nat.blt y 241 then 65 else 64))) else (bif Nat.blt y 245 then (bif Nat.blt y 243 then 86 else (bif Nat.blt y 244 then 65 else 86)) else (bif Nat.blt y 246 then 44 else (bif Nat.blt y 247 then 66 else 22))))) else (bif Nat.blt y 259 then (bif Nat.blt y 253 then (bif Nat.blt y 250 then (bif Nat.blt y 249 then 43 else 66) else (bif Nat.blt y 251 then 43 else (bif Nat.blt y 252 then 66 else 43))) else (bif Nat.blt y 256 then (bif Nat.blt y 254 then 66 else (bif Nat.blt y 255 then 66 else 66)) else (bif Nat.blt y 257 then 44 else (bif Nat.blt y 258 then 90 else 41)))) else (bif Nat.blt y 265 then (bif Nat.blt y 262 then (bif Nat.blt y 260 then 88 else (bif Nat.blt y 261 then 71 else 68)) else (bif Nat.blt y 263 then 71 else (bif Nat.blt y 264 then 99 else 121))) else (bif Nat.blt y 268 then (bif Nat.blt y 266 then 68 else (bif Nat.blt y 267 then 93 else 121)) else (bif Nat.blt y 269 then 93 else (bif Nat.blt y 270 then 22 else 0))))))) else (bif Nat.blt y 316 then (bif Nat.blt y 293 then (bif Nat.blt y 282 then (bif Nat.blt y 276 then (bif Nat.blt y 273 then (bif Nat.blt y 272 then 46 else 121) else (bif Nat.blt y 274 then 93 else (bif Nat.blt y 275 then 71 else 90))) else (bif Nat.blt y 279 then (bif Nat.blt y 277 then 21 else (bif Nat.blt y 278 then 0 else 45)) else (bif Nat.blt y 280 then 68 else (bif Nat.blt y 281 then 0 else 68)))) else (bif Nat.blt y 287 then (bif Nat.blt y 284 then (bif Nat.blt y 283 then 93 else 23) else (bif Nat.blt y 285 then 118 else (bif Nat.blt y 286 then 0 else 22))) else (bif Nat.blt y 290 then (bif Nat.blt y 288 then 44 else (bif Nat.blt y 289 then 67 else 0)) else (bif Nat.blt y 291 then 118 else (bif Nat.blt y 292 then 67 else 21))))) else (bif Nat.blt y 304 then (bif Nat.blt y 298 then (bif Nat.blt y 295 then (bif Nat.blt y 294 then 21 else 46) else (bif Nat.blt y 296 then 70 else (bif Nat.blt y 297 then 90 else 21))) else (bif Nat.blt y 301 then (bif Nat.blt y 299 then 0 else (bif Nat.blt y 300 then 29 else 0)) else (bif Nat.blt y 302 then 30 else (bif Nat.blt y 303 then 56 else 21)))) else (bif Nat.blt y 310 then (bif Nat.blt y 307 then (bif Nat.blt y 305 then 51 else (bif Nat.blt y 306 then 89 else 90)) else (bif Nat.blt y 308 then 89 else (bif Nat.blt y 309 then 111 else 56))) else (bif Nat.blt y 313 then (bif Nat.blt y 311 then 51 else (bif Nat.blt y 312 then 22 else 66)) else (bif Nat.blt y 314 then 90 else (bif Nat.blt y 315 then 43 else 67)))))) else (bif Nat.blt y 339 then (bif Nat.blt y 327 then (bif Nat.blt y 321 then (bif Nat.blt y 318 then (bif Nat.blt y 317 then 0 else 90) else (bif Nat.blt y 319 then 0 else (bif Nat.blt y 320 then 21 else 43))) else (bif Nat.blt y 324 then (bif Nat.blt y 322 then 64 else (bif Nat.blt y 323 then 21 else 47)) else (bif Nat.blt y 325 then 43 else (bif Nat.blt y 326 then 71 else 0)))) else (bif Nat.blt y 333 then (bif Nat.blt y 330 then (bif Nat.blt y 328 then 69 else (bif Nat.blt y 329 then 0 else 43)) else (bif Nat.blt y 331 then 21 else (bif Nat.blt y 332 then 92 else 64))) else (bif Nat.blt y 336 then (bif Nat.blt y 334 then 114 else (bif Nat.blt y 335 then 136 else 0)) else (bif Nat.blt y 337 then 21 else (bif Nat.blt y 338 then 43 else 0))))) else (bif Nat.blt y 350 then (bif Nat.blt y 344 then (bif Nat.blt y 341 then (bif Nat.blt y 340 then 43 else 64) else (bif Nat.blt y 342 then 42 else (bif Nat.blt y 343 then 63 else 90))) else (bif Nat.blt y 347 then (bif Nat.blt y 345 then 114 else (bif Nat.blt y 346 then 138 else 162)) else (bif Nat.blt y 348 then 0 else (bif Nat.blt y 349 then 21 else 21)))) else (bif Nat.blt y 356 then (bif Nat.blt y 353 then (bif Nat.blt y 351 then 0 else (bif Nat.blt y 352 then 42 else 21)) else (bif Nat.blt y 354 then 136 else (bif Nat.blt y 355 then 0 else 162))) else (bif Nat.blt y 359 then (bif Nat.blt y 357 then 47 else (bif Nat.blt y 358 then 0 else 23)) else (bif Nat.blt y 360 then 47 else (bif Nat.blt y 361 then 23 else 218)))))))))
noncomputable abbrev ij_G0 : ij_G := (ij_tab, ij_ml, ij_rk, ij_tt)
noncomputable abbrev ij_Z0 : ij_Z := (ij_nm, ij_bt, ij_rt, ij_fr, ij_lo, 362)
noncomputable def ij_gw : List Cond := lw_tbl.filter goodWord
def ij_n1 : ij_N1 := [(ij_cn 4, 24, "ScaleForge", "WITHOUT", "[I", "ScaleForge")]
def ij_kn : List (Nat × Nat × Nat) := [(4, 44, 3), (5, 69, 79), (5, 76, 81), (7, 11, 12), (10, 26, 0), (10, 29, 1), (10, 59, 12), (10, 66, 14), (10, 73, 15), (10, 80, 16)]
noncomputable def ij_n2 : ij_N2 := ij_kn.map (fun q => (ij_cn q.1, q.2.1, ij_nm q.2.2, "ScaleForge"))
def ij_st : List (Nat × Nat × String × Nat) := [(5, 108, "odds", 0), (5, 114, "period", 1), (5, 115, "generator", 2), (5, 117, "length", 3), (5, 119, "down", 4), (5, 121, "root", 5), (5, 123, "nominals", 6), (5, 125, "right", 7), (5, 127, "up", 8), (5, 129, "sounds", 9), (7, 54, "end", 10), (7, 118, "press", 11), (7, 120, "lift", 12), (7, 122, "root", 13), (7, 124, "any", 14), (7, 126, "hold", 15), (7, 128, "when", 16), (7, 130, "loop", 17), (7, 132, "leave", 18), (7, 134, "stop", 19), (7, 102, "fit", 20), (7, 110, "sounds", 21), (7, 112, "degree", 22), (11, 204, " odds period generator length down root nominals right up sounds press lift hold leave any when loop end stop degree fit ", 23)]
def ij_sr : ij_S1 := ij_st.map (fun q => (ij_cn q.1, q.2.1, q.2.2.1, q.2.2.2))
def ij_fl : List (Nat × Nat × Nat × Nat) := [(0, 9, 0, 0), (0, 15, 0, 1), (0, 47, 4, 3), (1, 9, 1, 2), (1, 15, 1, 3), (1, 18, 1, 4), (1, 22, 1, 5), (1, 26, 1, 6), (1, 29, 1, 7), (1, 32, 1, 8), (1, 35, 1, 9), (1, 38, 1, 10), (1, 41, 1, 11), (1, 44, 1, 12), (1, 47, 1, 13), (1, 50, 1, 14), (1, 53, 1, 15), (1, 56, 1, 0), (1, 60, 1, 1), (1, 91, 6, 3), (1, 94, 6, 0), (1, 97, 6, 2), (1, 121, 6, 1), (1, 148, 4, 3), (2, 9, 2, 0), (2, 15, 2, 1), (2, 19, 2, 2), (2, 22, 2, 3), (2, 25, 2, 4), (2, 28, 2, 5), (2, 31, 2, 6), (2, 34, 2, 7), (2, 37, 2, 8), (3, 9, 3, 0), (3, 15, 3, 1), (3, 19, 3, 2), (3, 23, 3, 3), (4, 9, 4, 0), (4, 15, 4, 1), (4, 33, 4, 2), (4, 37, 4, 3), (4, 41, 4, 4), (5, 12, 5, 1), (5, 18, 5, 2), (5, 22, 5, 0), (5, 39, 2, 4), (5, 84, 2, 6), (5, 105, 4, 3), (6, 9, 6, 0), (6, 15, 6, 1), (6, 18, 6, 2), (6, 21, 6, 3), (6, 24, 6, 4), (6, 28, 6, 5), (7, 12, 7, 1), (7, 18, 7, 2), (7, 22, 7, 3), (7, 26, 7, 0), (7, 36, 6, 4), (7, 39, 6, 5), (7, 47, 2, 4), (7, 73, 6, 3), (7, 79, 6, 0), (7, 82, 6, 1), (7, 96, 6, 2), (7, 99, 2, 6), (8, 9, 8, 0), (8, 15, 8, 1), (8, 19, 8, 2), (9, 9, 9, 0), (9, 15, 9, 1), (9, 18, 9, 2), (9, 21, 9, 4), (9, 25, 9, 3), (10, 7, 10, 0), (10, 13, 10, 1), (10, 17, 10, 2), (10, 22, 10, 3), (10, 30, 10, 4), (10, 39, 10, 5), (10, 46, 10, 6), (10, 53, 10, 7), (10, 60, 10, 8), (10, 67, 10, 9), (10, 74, 10, 10), (10, 81, 10, 11), (10, 85, 10, 12), (10, 94, 10, 13), (10, 98, 10, 14), (10, 101, 10, 15), (10, 104, 10, 16), (10, 108, 10, 17), (10, 112, 10, 18), (10, 150, 8, 1), (10, 157, 8, 0), (10, 166, 2, 1), (10, 176, 5, 1), (10, 183, 6, 5), (10, 195, 7, 1), (10, 200, 6, 4), (10, 203, 2, 7), (10, 206, 2, 8), (10, 226, 4, 3), (10, 285, 4, 4), (10, 304, 3, 3), (10, 338, 0, 1), (10, 377, 1, 9), (10, 380, 1, 8), (11, 7, 11, 0), (11, 13, 11, 3), (11, 17, 11, 4), (11, 20, 11, 5), (11, 23, 11, 6), (11, 27, 11, 7), (11, 31, 11, 8), (11, 34, 11, 15), (11, 38, 11, 16), (11, 41, 11, 19), (11, 44, 11, 22), (11, 47, 11, 23), (11, 50, 11, 24), (11, 53, 11, 25), (11, 56, 11, 30), (11, 60, 11, 31), (11, 63, 11, 32), (11, 66, 11, 33), (11, 69, 11, 34), (11, 72, 11, 37), (11, 75, 11, 38), (11, 78, 11, 39), (11, 81, 11, 40), (11, 84, 11, 41), (11, 87, 11, 42), (11, 90, 11, 48), (11, 93, 11, 49), (11, 96, 11, 50), (11, 99, 11, 51), (11, 102, 11, 52), (11, 105, 11, 53), (11, 112, 11, 1), (11, 115, 11, 2), (11, 142, 11, 9), (11, 148, 11, 10), (11, 151, 11, 13), (11, 157, 11, 12), (11, 160, 11, 14), (11, 163, 11, 11), (11, 188, 11, 17), (11, 210, 11, 18), (11, 245, 11, 26), (11, 254, 11, 20), (11, 257, 11, 21), (11, 269, 11, 27), (11, 349, 11, 28), (11, 352, 11, 29), (11, 377, 11, 36), (11, 380, 11, 35), (11, 414, 11, 43), (11, 422, 11, 45), (11, 425, 11, 46), (11, 449, 11, 44), (11, 464, 11, 47), (11, 467, 11, 54), (11, 476, 11, 55)]
def ij_kl : List (Nat × Nat × Nat) := [(0, 19, 80), (0, 25, 262), (0, 29, 6), (0, 35, 135), (0, 39, 8), (0, 43, 188), (0, 52, 88), (0, 58, 74), (0, 62, 269), (0, 66, 270), (1, 64, 319), (1, 68, 321), (1, 71, 322), (1, 74, 331), (1, 78, 332), (1, 81, 318), (1, 85, 118), (1, 100, 320), (1, 103, 323), (1, 106, 324), (1, 109, 325), (1, 114, 327), (1, 117, 328), (1, 124, 329), (1, 128, 330), (1, 131, 178), (1, 134, 182), (1, 137, 80), (1, 140, 326), (1, 144, 135), (1, 152, 74), (1, 158, 155), (1, 161, 189), (2, 40, 56), (2, 44, 57), (2, 48, 58), (2, 51, 59), (2, 54, 60), (2, 57, 61), (2, 60, 62), (2, 63, 63), (2, 66, 66), (2, 72, 71), (2, 76, 64), (2, 80, 76), (3, 26, 74), (3, 32, 139), (3, 36, 138), (3, 40, 6), (3, 44, 88), (3, 50, 140), (3, 53, 188), (4, 18, 2), (4, 21, 9), (4, 48, 5), (4, 52, 7), (4, 58, 8), (4, 62, 4), (4, 68, 6), (4, 71, 88), (4, 77, 74), (4, 81, 232), (4, 84, 77), (4, 87, 95), (5, 11, 10), (5, 26, 55), (5, 32, 2), (5, 35, 64), (5, 43, 9), (5, 46, 73), (5, 50, 85), (5, 54, 63), (5, 57, 75), (5, 60, 6), (5, 66, 78), (5, 73, 80), (5, 80, 82), (5, 87, 83), (5, 91, 84), (5, 94, 74), (5, 98, 76), (5, 102, 77), (5, 110, 72), (7, 30, 55), (7, 43, 64), (7, 50, 63), (7, 56, 72), (7, 60, 119), (7, 63, 120), (7, 67, 125), (7, 70, 118), (7, 76, 84), (7, 85, 123), (7, 88, 124), (7, 92, 82), (7, 104, 121), (7, 107, 122), (7, 114, 76), (8, 22, 36), (8, 28, 38), (9, 28, 74), (9, 34, 279), (9, 38, 280), (9, 42, 281), (9, 45, 277), (9, 48, 278), (9, 52, 95), (9, 57, 276), (9, 60, 239), (10, 36, 11), (10, 45, 13), (10, 52, 10), (10, 91, 17), (10, 115, 27), (10, 119, 28), (10, 123, 29), (10, 127, 30), (10, 131, 37), (10, 135, 39), (10, 139, 44), (10, 143, 45), (10, 147, 35), (10, 153, 48), (10, 169, 51), (10, 173, 86), (10, 179, 87), (10, 187, 89), (10, 191, 90), (10, 194, 126), (10, 197, 127), (10, 209, 135), (10, 212, 137), (10, 216, 141), (10, 220, 88), (10, 229, 146), (10, 232, 147), (10, 235, 151), (10, 238, 138), (10, 241, 77), (10, 244, 155), (10, 247, 156), (10, 250, 140), (10, 254, 166), (10, 260, 167), (10, 263, 171), (10, 266, 80), (10, 269, 175), (10, 273, 83), (10, 276, 9), (10, 279, 178), (10, 282, 182), (10, 288, 5), (10, 291, 188), (10, 295, 189), (10, 298, 200), (10, 301, 203), (10, 305, 209), (10, 308, 215), (10, 311, 221), (10, 314, 225), (10, 317, 228), (10, 320, 233), (10, 323, 239), (10, 328, 245), (10, 331, 8), (10, 335, 263), (10, 341, 271), (10, 345, 282), (10, 349, 283), (10, 352, 289), (10, 355, 292), (10, 359, 294), (10, 362, 301), (10, 368, 311), (10, 371, 314), (10, 374, 333), (10, 383, 347), (10, 386, 350), (10, 389, 300), (10, 393, 36), (10, 396, 79), (10, 399, 81), (10, 406, 3), (10, 412, 136), (10, 415, 6), (10, 418, 293), (11, 108, 19), (11, 118, 98), (11, 122, 115), (11, 125, 33), (11, 129, 32), (11, 132, 41), (11, 136, 42), (11, 145, 53), (11, 154, 92), (11, 166, 93), (11, 169, 94), (11, 173, 95), (11, 178, 66), (11, 184, 71), (11, 191, 96), (11, 194, 104), (11, 197, 100), (11, 200, 102), (11, 206, 99), (11, 213, 101), (11, 217, 103), (11, 221, 105), (11, 224, 106), (11, 227, 107), (11, 230, 109), (11, 233, 97), (11, 236, 108), (11, 239, 110), (11, 242, 114), (11, 248, 116), (11, 251, 129), (11, 260, 130), (11, 263, 131), (11, 266, 111), (11, 272, 112), (11, 275, 113), (11, 279, 143), (11, 282, 144), (11, 289, 149), (11, 293, 153), (11, 296, 158), (11, 299, 159), (11, 304, 164), (11, 307, 169), (11, 310, 173), (11, 313, 180), (11, 316, 184), (11, 321, 191), (11, 324, 194), (11, 327, 205), (11, 330, 211), (11, 333, 217), (11, 336, 223), (11, 339, 230), (11, 342, 235), (11, 355, 239), (11, 358, 241), (11, 365, 247), (11, 368, 252), (11, 371, 192), (11, 374, 193), (11, 383, 285), (11, 386, 286), (11, 389, 287), (11, 394, 265), (11, 397, 270), (11, 400, 298), (11, 403, 303), (11, 411, 316), (11, 418, 335), (11, 428, 338), (11, 431, 336), (11, 434, 337), (11, 437, 339), (11, 440, 341), (11, 443, 342), (11, 446, 343), (11, 452, 340), (11, 455, 344), (11, 461, 345), (11, 473, 354), (11, 479, 357), (12, 9, 6), (12, 15, 74), (12, 19, 7), (13, 9, 18), (13, 12, 20), (13, 13, 21), (13, 17, 22), (13, 18, 23), (13, 22, 24), (13, 23, 25), (13, 26, 26), (13, 27, 31), (13, 31, 34), (13, 34, 40), (13, 38, 43), (13, 39, 46), (13, 43, 47), (13, 44, 49), (13, 48, 50), (13, 49, 52), (13, 53, 54), (13, 54, 91), (13, 58, 117), (13, 59, 128), (13, 62, 132), (13, 63, 133), (13, 66, 134), (13, 67, 142), (13, 70, 145), (13, 71, 148), (13, 74, 150), (13, 75, 152), (13, 78, 154), (13, 79, 157), (13, 82, 160), (13, 83, 161), (13, 86, 162), (13, 87, 163), (13, 91, 165), (13, 92, 168), (13, 95, 170), (13, 96, 172), (13, 99, 174), (13, 100, 176), (13, 103, 177), (13, 104, 179), (13, 107, 181), (13, 108, 183), (13, 111, 185), (13, 112, 186), (13, 115, 187), (13, 116, 190), (13, 119, 195), (13, 120, 196), (13, 123, 197), (13, 124, 198), (13, 127, 199), (13, 128, 201), (13, 131, 202), (13, 132, 204), (13, 135, 206), (13, 136, 207), (13, 139, 208), (13, 140, 210), (13, 143, 212), (13, 144, 213), (13, 147, 214), (13, 148, 216), (13, 151, 218), (13, 152, 219), (13, 155, 220), (13, 156, 222), (13, 159, 224), (13, 160, 226), (13, 163, 227), (13, 164, 229), (13, 167, 231), (13, 168, 234), (13, 171, 236), (13, 172, 237), (13, 175, 238), (13, 176, 240), (13, 179, 242), (13, 180, 243), (13, 183, 244), (13, 184, 246), (13, 187, 248), (13, 188, 249), (13, 191, 250), (13, 192, 251), (13, 195, 253), (13, 196, 254), (13, 199, 255), (13, 200, 256), (13, 203, 257), (13, 204, 258), (13, 207, 259), (13, 208, 260), (13, 211, 261), (13, 212, 264), (13, 215, 266), (13, 216, 267), (13, 219, 268), (13, 220, 272), (13, 223, 273), (13, 224, 274), (13, 227, 275), (13, 228, 284), (13, 231, 288), (13, 232, 290), (13, 235, 291), (13, 236, 295), (13, 239, 296), (13, 240, 297), (13, 243, 299), (13, 244, 302), (13, 248, 304), (13, 249, 305), (13, 253, 306), (13, 254, 307), (13, 257, 308), (13, 258, 309), (13, 262, 310), (13, 263, 312), (13, 266, 313), (13, 267, 315), (13, 270, 317), (13, 271, 334), (13, 274, 346), (13, 275, 348), (13, 278, 349), (13, 279, 351), (13, 282, 352), (13, 283, 353), (13, 286, 355), (13, 287, 356), (13, 290, 358), (13, 291, 359), (13, 294, 360), (14, 335, 65), (14, 492, 67), (14, 495, 70), (14, 1059, 68), (15, 9, 69)]
def ij_co : List (Nat × Nat × Nat) := [(1, 147, 65536), (11, 172, 100000), (11, 417, 65536)]
def ij_c2 : List (Nat × Nat × Nat) := [(0, 50, 18446744073709551615), (4, 90, 18446744073709551615), (8, 26, 18446744073709551615), (10, 366, 16), (11, 140, 18446744073709551615), (11, 285, 18446744073709551556), (11, 287, 60), (11, 302, 24), (11, 319, 59), (11, 345, 18446744073709551607), (11, 347, 9), (11, 361, 11), (11, 363, 5), (11, 392, 3), (11, 407, 12), (11, 409, 16), (11, 459, 9999), (11, 471, 20), (13, 32, 4294967295), (17, 314, 6148914691236517205), (17, 316, 3689348814741910323), (17, 318, 1085102592571150095)]
def ij_cc : List (Nat × Nat × Nat) := [(5, 9, 4), (7, 9, 6), (10, 20, 8), (10, 27, 2), (10, 34, 5), (10, 43, 7), (10, 50, 4), (10, 57, 6), (10, 64, 3), (10, 71, 0), (10, 78, 9), (10, 89, 1), (13, 7, 10), (13, 10, 11)]
def ij_flp : List Nat := [375, 376, 259, 413, 414, 415, 416, 417, 418, 419, 421, 423, 424, 425, 426, 427, 428, 411, 412, 311, 302, 308, 305, 262, 173, 174, 176, 177, 178, 181, 182, 185, 187, 355, 356, 357, 358, 255, 256, 257, 258, 263, 278, 280, 277, 179, 183, 260, 300, 303, 306, 309, 312, 315, 332, 334, 335, 331, 313, 316, 180, 310, 301, 304, 307, 184, 154, 156, 158, 389, 390, 391, 393, 392, 464, 465, 466, 467, 468, 469, 470, 471, 472, 473, 474, 475, 476, 477, 478, 479, 480, 481, 482, 157, 155, 175, 279, 317, 333, 314, 186, 188, 261, 264, 359, 377, 422, 420, 1408, 1411, 1412, 1413, 1414, 1415, 1416, 1423, 1424, 1427, 1430, 1431, 1432, 1433, 1438, 1439, 1440, 1441, 1442, 1445, 1446, 1447, 1448, 1449, 1450, 1456, 1457, 1458, 1459, 1460, 1461, 1409, 1410, 1417, 1418, 1421, 1420, 1422, 1419, 1425, 1426, 1434, 1428, 1429, 1435, 1436, 1437, 1444, 1443, 1451, 1453, 1454, 1452, 1455, 1462, 1463]
def ij_klp : List Nat := [1154, 1155, 1162, 1158, 1159, 1160, 1175, 1176, 1177, 1181, 1301, 1310, 1319, 1323, 1366, 1305, 1309, 1314, 1327, 1332, 1336, 1340, 1351, 1355, 1362, 1331, 1318, 1344, 1345, 1350, 1359, 1360, 1361, 625, 629, 632, 635, 639, 642, 646, 649, 663, 673, 764, 773, 877, 886, 890, 894, 1033, 882, 1059, 221, 230, 237, 244, 250, 241, 254, 782, 925, 1096, 979, 980, 217, 616, 620, 621, 653, 654, 720, 724, 725, 729, 733, 750, 760, 765, 769, 730, 737, 741, 659, 800, 801, 802, 804, 805, 814, 827, 809, 813, 831, 847, 850, 836, 841, 840, 573, 574, 1196, 1197, 1215, 1219, 1211, 1201, 1210, 1205, 1209, 211, 290, 346, 407, 538, 542, 546, 550, 558, 569, 582, 586, 561, 595, 604, 612, 774, 778, 788, 796, 851, 864, 868, 878, 895, 900, 903, 911, 915, 920, 921, 926, 935, 944, 948, 956, 872, 964, 969, 970, 975, 987, 1000, 1001, 1005, 1021, 1029, 1042, 1055, 1068, 1076, 1084, 1092, 1107, 1118, 1046, 1150, 1171, 1192, 1223, 1231, 1239, 1242, 1258, 1282, 1289, 1297, 1374, 1382, 1262, 565, 967, 968, 757, 873, 930, 1246, 1404, 1657, 1728, 1597, 1594, 1605, 1609, 1625, 1645, 1649, 1652, 1656, 1670, 1671, 1641, 1692, 1672, 1684, 1666, 1676, 1680, 1688, 1696, 1699, 1706, 1637, 1661, 1702, 1709, 1724, 1744, 1740, 1736, 1721, 1717, 1713, 1756, 1752, 1766, 1773, 1781, 1785, 1798, 1806, 1814, 1826, 1834, 1855, 1859, 1879, 1891, 1903, 1915, 1927, 1935, 1953, 1949, 1964, 1976, 1863, 1867, 2008, 2012, 2004, 2029, 2041, 2046, 2054, 2080, 2097, 2113, 2101, 2105, 2109, 2126, 2122, 2130, 2093, 2118, 2089, 2147, 2155, 247, 947, 1004, 141, 1400, 522, 1578, 526, 1582, 530, 1586, 534, 1590, 554, 1601, 578, 1612, 591, 1617, 600, 1621, 608, 1633, 792, 1732, 856, 1629, 860, 1748, 896, 1760, 907, 1769, 916, 1777, 931, 1789, 936, 1793, 940, 1802, 952, 1810, 960, 1818, 971, 1822, 983, 1830, 992, 1838, 996, 1850, 1009, 1871, 1013, 1842, 1017, 1846, 1025, 1875, 1034, 1883, 1038, 1887, 1047, 1895, 1051, 1899, 1060, 1907, 1064, 1911, 1072, 1919, 1080, 1923, 1088, 1931, 1099, 1939, 1103, 1945, 1110, 1954, 1114, 1958, 1122, 1968, 1126, 1972, 1130, 1980, 1134, 1984, 1138, 1988, 1142, 1992, 1146, 2025, 1163, 2033, 1167, 2037, 1184, 1996, 1188, 2000, 1227, 2016, 1235, 2020, 1250, 2042, 1254, 2050, 1265, 2058, 1269, 2062, 1273, 2066, 1278, 2072, 1285, 2076, 1293, 2084, 1370, 2134, 1378, 2138, 1386, 2142, 1390, 2151, 1394, 2159, 667, 677, 681, 689, 684]
def ij_cop : List Nat := [1349, 1655, 2117]
def ij_c2p : List Nat := [1161, 991, 590, 1277, 1616, 1764, 1765, 1797, 1854, 1943, 1944, 1962, 1963, 2024, 2070, 2071, 2088, 2146, 2163, 785, 786, 787]
def ij_ccp : List Nat := [215, 294, 147, 167, 209, 288, 345, 347, 349, 369, 383, 405, 139, 1398]
def ij_knp : List Nat := [234, 745, 754, 296, 150, 169, 348, 351, 371, 385]
def ij_stp : List Nat := [658, 711, 712, 713, 714, 715, 716, 717, 718, 719, 803, 818, 819, 820, 821, 822, 823, 824, 825, 826, 835, 845, 846, 1665]
-- 1 static, 2 an instance method, 3 one that is called virtually, 9 the law
set_option maxRecDepth 4000 in
noncomputable def ij_mk (y : Nat) : Nat := (bif Nat.blt y 181 then (bif Nat.blt y 90 then (bif Nat.blt y 45 then (bif Nat.blt y 22 then (bif Nat.blt y 11 then (bif Nat.blt y 5 then (bif Nat.blt y 2 then (bif Nat.blt y 1 then 2 else 2) else (bif Nat.blt y 3 then 3 else (bif Nat.blt y 4 then 1 else 1))) else (bif Nat.blt y 8 then (bif Nat.blt y 6 then 3 else (bif Nat.blt y 7 then 1 else 1)) else (bif Nat.blt y 9 then 3 else (bif Nat.blt y 10 then 3 else 2)))) else (bif Nat.blt y 16 then (bif Nat.blt y 13 then (bif Nat.blt y 12 then 2 else 2) else (bif Nat.blt y 14 then 2 else (bif Nat.blt y 15 then 2 else 2))) else (bif Nat.blt y 19 then (bif Nat.blt y 17 then 2 else (bif Nat.blt y 18 then 2 else 2)) else (bif Nat.blt y 20 then 3 else (bif Nat.blt y 21 then 2 else 3))))) else (bif Nat.blt y 33 then (bif Nat.blt y 27 then (bif Nat.blt y 24 then (bif Nat.blt y 23 then 3 else 3) else (bif Nat.blt y 25 then 3 else (bif Nat.blt y 26 then 3 else 3))) else (bif Nat.blt y 30 then (bif Nat.blt y 28 then 3 else (bif Nat.blt y 29 then 3 else 3)) else (bif Nat.blt y 31 then 3 else (bif Nat.blt y 32 then 3 else 1)))) else (bif Nat.blt y 39 then (bif Nat.blt y 36 then (bif Nat.blt y 34 then 3 else (bif Nat.blt y 35 then 3 else 3)) else (bif Nat.blt y 37 then 3 else (bif Nat.blt y 38 then 1 else 3))) else (bif Nat.blt y 42 then (bif Nat.blt y 40 then 3 else (bif Nat.blt y 41 then 3 else 3)) else (bif Nat.blt y 43 then 1 else (bif Nat.blt y 44 then 3 else 3)))))) else (bif Nat.blt y 67 then (bif Nat.blt y 56 then (bif Nat.blt y 50 then (bif Nat.blt y 47 then (bif Nat.blt y 46 then 3 else 3) else (bif Nat.blt y 48 then 3 else (bif Nat.blt y 49 then 3 else 3))) else (bif Nat.blt y 53 then (bif Nat.blt y 51 then 3 else (bif Nat.blt y 52 then 3 else 3)) else (bif Nat.blt y 54 then 3 else (bif Nat.blt y 55 then 3 else 3)))) else (bif Nat.blt y 61 then (bif Nat.blt y 58 then (bif Nat.blt y 57 then 3 else 1) else (bif Nat.blt y 59 then 1 else (bif Nat.blt y 60 then 3 else 1))) else (bif Nat.blt y 64 then (bif Nat.blt y 62 then 3 else (bif Nat.blt y 63 then 1 else 3)) else (bif Nat.blt y 65 then 3 else (bif Nat.blt y 66 then 3 else 3))))) else (bif Nat.blt y 78 then (bif Nat.blt y 72 then (bif Nat.blt y 69 then (bif Nat.blt y 68 then 3 else 1) else (bif Nat.blt y 70 then 1 else (bif Nat.blt y 71 then 1 else 3))) else (bif Nat.blt y 75 then (bif Nat.blt y 73 then 3 else (bif Nat.blt y 74 then 3 else 1)) else (bif Nat.blt y 76 then 3 else (bif Nat.blt y 77 then 3 else 3)))) else (bif Nat.blt y 84 then (bif Nat.blt y 81 then (bif Nat.blt y 79 then 3 else (bif Nat.blt y 80 then 1 else 3)) else (bif Nat.blt y 82 then 1 else (bif Nat.blt y 83 then 3 else 3))) else (bif Nat.blt y 87 then (bif Nat.blt y 85 then 3 else (bif Nat.blt y 86 then 3 else 3)) else (bif Nat.blt y 88 then 3 else (bif Nat.blt y 89 then 1 else 3))))))) else (bif Nat.blt y 135 then (bif Nat.blt y 112 then (bif Nat.blt y 101 then (bif Nat.blt y 95 then (bif Nat.blt y 92 then (bif Nat.blt y 91 then 3 else 3) else (bif Nat.blt y 93 then 3 else (bif Nat.blt y 94 then 1 else 1))) else (bif Nat.blt y 98 then (bif Nat.blt y 96 then 1 else (bif Nat.blt y 97 then 3 else 3)) else (bif Nat.blt y 99 then 3 else (bif Nat.blt y 100 then 3 else 3)))) else (bif Nat.blt y 106 then (bif Nat.blt y 103 then (bif Nat.blt y 102 then 3 else 3) else (bif Nat.blt y 104 then 3 else (bif Nat.blt y 105 then 3 else 3))) else (bif Nat.blt y 109 then (bif Nat.blt y 107 then 1 else (bif Nat.blt y 108 then 1 else 3)) else (bif Nat.blt y 110 then 1 else (bif Nat.blt y 111 then 3 else 1))))) else (bif Nat.blt y 123 then (bif Nat.blt y 117 then (bif Nat.blt y 114 then (bif Nat.blt y 113 then 3 else 3) else (bif Nat.blt y 115 then 3 else (bif Nat.blt y 116 then 3 else 3))) else (bif Nat.blt y 120 then (bif Nat.blt y 118 then 3 else (bif Nat.blt y 119 then 3 else 3)) else (bif Nat.blt y 121 then 3 else (bif Nat.blt y 122 then 3 else 3)))) else (bif Nat.blt y 129 then (bif Nat.blt y 126 then (bif Nat.blt y 124 then 3 else (bif Nat.blt y 125 then 1 else 3)) else (bif Nat.blt y 127 then 3 else (bif Nat.blt y 128 then 3 else 3))) else (bif Nat.blt y 132 then (bif Nat.blt y 130 then 3 else (bif Nat.blt y 131 then 3 else 3)) else (bif Nat.blt y 133 then 3 else (bif Nat.blt y 134 then 3 else 3)))))) else (bif Nat.blt y 158 then (bif Nat.blt y 146 then (bif Nat.blt y 140 then (bif Nat.blt y 137 then (bif Nat.blt y 136 then 3 else 3) else (bif Nat.blt y 138 then 3 else (bif Nat.blt y 139 then 3 else 3))) else (bif Nat.blt y 143 then (bif Nat.blt y 141 then 3 else (bif Nat.blt y 142 then 3 else 3)) else (bif Nat.blt y 144 then 3 else (bif Nat.blt y 145 then 3 else 3)))) else (bif Nat.blt y 152 then (bif Nat.blt y 149 then (bif Nat.blt y 147 then 1 else (bif Nat.blt y 148 then 3 else 3)) else (bif Nat.blt y 150 then 1 else (bif Nat.blt y 151 then 3 else 3))) else (bif Nat.blt y 155 then (bif Nat.blt y 153 then 3 else (bif Nat.blt y 154 then 3 else 3)) else (bif Nat.blt y 156 then 3 else (bif Nat.blt y 157 then 3 else 3))))) else (bif Nat.blt y 169 then (bif Nat.blt y 163 then (bif Nat.blt y 160 then (bif Nat.blt y 159 then 3 else 3) else (bif Nat.blt y 161 then 3 else (bif Nat.blt y 162 then 3 else 3))) else (bif Nat.blt y 166 then (bif Nat.blt y 164 then 3 else (bif Nat.blt y 165 then 3 else 3)) else (bif Nat.blt y 167 then 1 else (bif Nat.blt y 168 then 3 else 3)))) else (bif Nat.blt y 175 then (bif Nat.blt y 172 then (bif Nat.blt y 170 then 3 else (bif Nat.blt y 171 then 3 else 3)) else (bif Nat.blt y 173 then 3 else (bif Nat.blt y 174 then 3 else 3))) else (bif Nat.blt y 178 then (bif Nat.blt y 176 then 1 else (bif Nat.blt y 177 then 3 else 3)) else (bif Nat.blt y 179 then 3 else (bif Nat.blt y 180 then 3 else 3)))))))) else (bif Nat.blt y 271 then (bif Nat.blt y 226 then (bif Nat.blt y 203 then (bif Nat.blt y 192 then (bif Nat.blt y 186 then (bif Nat.blt y 183 then (bif Nat.blt y 182 then 3 else 3) else (bif Nat.blt y 184 then 3 else (bif Nat.blt y 185 then 3 else 3))) else (bif Nat.blt y 189 then (bif Nat.blt y 187 then 3 else (bif Nat.blt y 188 then 3 else 1)) else (bif Nat.blt y 190 then 3 else (bif Nat.blt y 191 then 3 else 3)))) else (bif Nat.blt y 197 then (bif Nat.blt y 194 then (bif Nat.blt y 193 then 3 else 3) else (bif Nat.blt y 195 then 3 else (bif Nat.blt y 196 then 3 else 3))) else (bif Nat.blt y 200 then (bif Nat.blt y 198 then 3 else (bif Nat.blt y 199 then 3 else 3)) else (bif Nat.blt y 201 then 3 else (bif Nat.blt y 202 then 3 else 3))))) else (bif Nat.blt y 214 then (bif Nat.blt y 208 then (bif Nat.blt y 205 then (bif Nat.blt y 204 then 3 else 3) else (bif Nat.blt y 206 then 3 else (bif Nat.blt y 207 then 3 else 3))) else (bif Nat.blt y 211 then (bif Nat.blt y 209 then 3 else (bif Nat.blt y 210 then 3 else 3)) else (bif Nat.blt y 212 then 3 else (bif Nat.blt y 213 then 3 else 3)))) else (bif Nat.blt y 220 then (bif Nat.blt y 217 then (bif Nat.blt y 215 then 3 else (bif Nat.blt y 216 then 3 else 3)) else (bif Nat.blt y 218 then 3 else (bif Nat.blt y 219 then 3 else 3))) else (bif Nat.blt y 223 then (bif Nat.blt y 221 then 3 else (bif Nat.blt y 222 then 3 else 3)) else (bif Nat.blt y 224 then 3 else (bif Nat.blt y 225 then 3 else 3)))))) else (bif Nat.blt y 248 then (bif Nat.blt y 237 then (bif Nat.blt y 231 then (bif Nat.blt y 228 then (bif Nat.blt y 227 then 3 else 3) else (bif Nat.blt y 229 then 3 else (bif Nat.blt y 230 then 3 else 3))) else (bif Nat.blt y 234 then (bif Nat.blt y 232 then 3 else (bif Nat.blt y 233 then 1 else 3)) else (bif Nat.blt y 235 then 3 else (bif Nat.blt y 236 then 3 else 3)))) else (bif Nat.blt y 242 then (bif Nat.blt y 239 then (bif Nat.blt y 238 then 3 else 3) else (bif Nat.blt y 240 then 1 else (bif Nat.blt y 241 then 3 else 3))) else (bif Nat.blt y 245 then (bif Nat.blt y 243 then 3 else (bif Nat.blt y 244 then 3 else 3)) else (bif Nat.blt y 246 then 3 else (bif Nat.blt y 247 then 3 else 3))))) else (bif Nat.blt y 259 then (bif Nat.blt y 253 then (bif Nat.blt y 250 then (bif Nat.blt y 249 then 3 else 3) else (bif Nat.blt y 251 then 3 else (bif Nat.blt y 252 then 3 else 3))) else (bif Nat.blt y 256 then (bif Nat.blt y 254 then 3 else (bif Nat.blt y 255 then 3 else 3)) else (bif Nat.blt y 257 then 3 else (bif Nat.blt y 258 then 3 else 3)))) else (bif Nat.blt y 265 then (bif Nat.blt y 262 then (bif Nat.blt y 260 then 3 else (bif Nat.blt y 261 then 3 else 3)) else (bif Nat.blt y 263 then 1 else (bif Nat.blt y 264 then 3 else 3))) else (bif Nat.blt y 268 then (bif Nat.blt y 266 then 3 else (bif Nat.blt y 267 then 3 else 3)) else (bif Nat.blt y 269 then 3 else (bif Nat.blt y 270 then 3 else 1))))))) else (bif Nat.blt y 316 then (bif Nat.blt y 293 then (bif Nat.blt y 282 then (bif Nat.blt y 276 then (bif Nat.blt y 273 then (bif Nat.blt y 272 then 3 else 3) else (bif Nat.blt y 274 then 3 else (bif Nat.blt y 275 then 3 else 3))) else (bif Nat.blt y 279 then (bif Nat.blt y 277 then 3 else (bif Nat.blt y 278 then 3 else 3)) else (bif Nat.blt y 280 then 3 else (bif Nat.blt y 281 then 3 else 3)))) else (bif Nat.blt y 287 then (bif Nat.blt y 284 then (bif Nat.blt y 283 then 3 else 3) else (bif Nat.blt y 285 then 3 else (bif Nat.blt y 286 then 3 else 3))) else (bif Nat.blt y 290 then (bif Nat.blt y 288 then 3 else (bif Nat.blt y 289 then 3 else 3)) else (bif Nat.blt y 291 then 3 else (bif Nat.blt y 292 then 3 else 1))))) else (bif Nat.blt y 304 then (bif Nat.blt y 298 then (bif Nat.blt y 295 then (bif Nat.blt y 294 then 3 else 3) else (bif Nat.blt y 296 then 3 else (bif Nat.blt y 297 then 3 else 3))) else (bif Nat.blt y 301 then (bif Nat.blt y 299 then 3 else (bif Nat.blt y 300 then 3 else 1)) else (bif Nat.blt y 302 then 3 else (bif Nat.blt y 303 then 3 else 3)))) else (bif Nat.blt y 310 then (bif Nat.blt y 307 then (bif Nat.blt y 305 then 3 else (bif Nat.blt y 306 then 3 else 3)) else (bif Nat.blt y 308 then 3 else (bif Nat.blt y 309 then 3 else 3))) else (bif Nat.blt y 313 then (bif Nat.blt y 311 then 3 else (bif Nat.blt y 312 then 1 else 3)) else (bif Nat.blt y 314 then 3 else (bif Nat.blt y 315 then 3 else 3)))))) else (bif Nat.blt y 339 then (bif Nat.blt y 327 then (bif Nat.blt y 321 then (bif Nat.blt y 318 then (bif Nat.blt y 317 then 3 else 3) else (bif Nat.blt y 319 then 3 else (bif Nat.blt y 320 then 3 else 3))) else (bif Nat.blt y 324 then (bif Nat.blt y 322 then 3 else (bif Nat.blt y 323 then 3 else 3)) else (bif Nat.blt y 325 then 3 else (bif Nat.blt y 326 then 3 else 3)))) else (bif Nat.blt y 333 then (bif Nat.blt y 330 then (bif Nat.blt y 328 then 3 else (bif Nat.blt y 329 then 3 else 3)) else (bif Nat.blt y 331 then 3 else (bif Nat.blt y 332 then 3 else 3))) else (bif Nat.blt y 336 then (bif Nat.blt y 334 then 3 else (bif Nat.blt y 335 then 3 else 3)) else (bif Nat.blt y 337 then 3 else (bif Nat.blt y 338 then 3 else 3))))) else (bif Nat.blt y 350 then (bif Nat.blt y 344 then (bif Nat.blt y 341 then (bif Nat.blt y 340 then 3 else 3) else (bif Nat.blt y 342 then 3 else (bif Nat.blt y 343 then 3 else 3))) else (bif Nat.blt y 347 then (bif Nat.blt y 345 then 3 else (bif Nat.blt y 346 then 3 else 3)) else (bif Nat.blt y 348 then 3 else (bif Nat.blt y 349 then 3 else 3)))) else (bif Nat.blt y 356 then (bif Nat.blt y 353 then (bif Nat.blt y 351 then 3 else (bif Nat.blt y 352 then 3 else 3)) else (bif Nat.blt y 354 then 3 else (bif Nat.blt y 355 then 3 else 3))) else (bif Nat.blt y 359 then (bif Nat.blt y 357 then 3 else (bif Nat.blt y 358 then 3 else 3)) else (bif Nat.blt y 360 then 3 else (bif Nat.blt y 361 then 3 else 9)))))))))
noncomputable def ij_mw (y : Nat) : List Cond := match ij_mk y with
  | 1 => [.initialized (ij_nm y).cls, .static (ij_nm y)]
  | 2 => [.initialized (ij_nm y).cls, .instanceMethod (ij_nm y)]
  | 3 => [.initialized (ij_nm y).cls, .instanceMethod (ij_nm y), .selects (ij_nm y).cls (ij_nm y) (ij_nm y)]
  | _ => []
noncomputable def ij_cd (y : Nat) : Cond := Cond.code (ij_nm y) (ij_bt y) (ij_ml y) (ij_rt y)
set_option maxRecDepth 4000 in
noncomputable def ij_mp (y : Nat) : List Nat := (bif Nat.blt y 181 then (bif Nat.blt y 90 then (bif Nat.blt y 45 then (bif Nat.blt y 22 then (bif Nat.blt y 11 then (bif Nat.blt y 5 then (bif Nat.blt y 2 then (bif Nat.blt y 1 then [120, 151] else [121, 170]) else (bif Nat.blt y 3 then [123, 222, 223] else (bif Nat.blt y 4 then [119, 235] else [125, 242]))) else (bif Nat.blt y 8 then (bif Nat.blt y 6 then [123, 238, 239] else (bif Nat.blt y 7 then [126, 248] else [126, 245])) else (bif Nat.blt y 9 then [123, 251, 252] else (bif Nat.blt y 10 then [123, 231, 232] else [123, 218])))) else (bif Nat.blt y 16 then (bif Nat.blt y 13 then (bif Nat.blt y 12 then [122, 212] else [128, 297]) else (bif Nat.blt y 14 then [127, 291] else (bif Nat.blt y 15 then [129, 352] else [130, 372]))) else (bif Nat.blt y 19 then (bif Nat.blt y 17 then [131, 386] else (bif Nat.blt y 18 then [132, 408] else [119, 142])) else (bif Nat.blt y 20 then [133, 1406, 50] else (bif Nat.blt y 21 then [133, 1401] else [119, 523, 524]))))) else (bif Nat.blt y 33 then (bif Nat.blt y 27 then (bif Nat.blt y 24 then (bif Nat.blt y 23 then [133, 1579, 1580] else [119, 527, 528]) else (bif Nat.blt y 25 then [133, 1583, 1584] else (bif Nat.blt y 26 then [119, 531, 532] else [133, 1587, 1588]))) else (bif Nat.blt y 30 then (bif Nat.blt y 28 then [119, 540, 0] else (bif Nat.blt y 29 then [119, 544, 1] else [120, 547, 548])) else (bif Nat.blt y 31 then [119, 552, 2] else (bif Nat.blt y 32 then [119, 535, 536] else [133, 1595])))) else (bif Nat.blt y 39 then (bif Nat.blt y 36 then (bif Nat.blt y 34 then [133, 1599, 51] else (bif Nat.blt y 35 then [133, 1591, 1592] else [120, 562, 563])) else (bif Nat.blt y 37 then [120, 566, 567] else (bif Nat.blt y 38 then [119, 559] else [120, 576, 3]))) else (bif Nat.blt y 42 then (bif Nat.blt y 40 then [120, 570, 571] else (bif Nat.blt y 41 then [119, 555, 556] else [133, 1607, 52])) else (bif Nat.blt y 43 then [133, 1610] else (bif Nat.blt y 44 then [133, 1602, 1603] else [119, 584, 4])))))) else (bif Nat.blt y 67 then (bif Nat.blt y 56 then (bif Nat.blt y 50 then (bif Nat.blt y 47 then (bif Nat.blt y 46 then [120, 587, 588] else [119, 579, 580]) else (bif Nat.blt y 48 then [133, 1613, 1614] else (bif Nat.blt y 49 then [120, 596, 597] else [119, 592, 593]))) else (bif Nat.blt y 53 then (bif Nat.blt y 51 then [133, 1618, 1619] else (bif Nat.blt y 52 then [121, 605, 606] else [119, 601, 602])) else (bif Nat.blt y 54 then [133, 1627, 53] else (bif Nat.blt y 55 then [133, 1622, 1623] else [121, 617, 618])))) else (bif Nat.blt y 61 then (bif Nat.blt y 58 then (bif Nat.blt y 57 then [121, 627, 5] else [121, 630]) else (bif Nat.blt y 59 then [121, 633] else (bif Nat.blt y 60 then [121, 637, 6] else [121, 640]))) else (bif Nat.blt y 64 then (bif Nat.blt y 62 then [121, 644, 7] else (bif Nat.blt y 63 then [121, 647] else [121, 650, 651])) else (bif Nat.blt y 65 then [121, 622, 623] else (bif Nat.blt y 66 then [134, 668, 669] else [134, 664, 665]))))) else (bif Nat.blt y 78 then (bif Nat.blt y 72 then (bif Nat.blt y 69 then (bif Nat.blt y 68 then [134, 678, 679] else [136, 690]) else (bif Nat.blt y 70 then [134, 685] else (bif Nat.blt y 71 then [135, 682] else [134, 674, 675]))) else (bif Nat.blt y 75 then (bif Nat.blt y 73 then [121, 660, 661] else (bif Nat.blt y 74 then [122, 656, 8] else [126, 731])) else (bif Nat.blt y 76 then [122, 727, 10] else (bif Nat.blt y 77 then [121, 738, 739] else [123, 742, 743])))) else (bif Nat.blt y 84 then (bif Nat.blt y 81 then (bif Nat.blt y 79 then [122, 735, 11] else (bif Nat.blt y 80 then [119, 746] else [123, 751, 752])) else (bif Nat.blt y 82 then [119, 755] else (bif Nat.blt y 83 then [121, 761, 762] else [123, 766, 767]))) else (bif Nat.blt y 87 then (bif Nat.blt y 85 then [121, 770, 771] else (bif Nat.blt y 86 then [122, 722, 9] else [122, 613, 614])) else (bif Nat.blt y 88 then [123, 775, 776] else (bif Nat.blt y 89 then [138, 783] else [123, 779, 780]))))))) else (bif Nat.blt y 135 then (bif Nat.blt y 112 then (bif Nat.blt y 101 then (bif Nat.blt y 95 then (bif Nat.blt y 92 then (bif Nat.blt y 91 then [119, 790, 12] else [119, 609, 610]) else (bif Nat.blt y 93 then [133, 1647, 56] else (bif Nat.blt y 94 then [133, 1650] else [133, 1653]))) else (bif Nat.blt y 98 then (bif Nat.blt y 96 then [125, 981] else (bif Nat.blt y 97 then [133, 1643, 55] else [133, 1639, 54])) else (bif Nat.blt y 99 then [133, 1659, 57] else (bif Nat.blt y 100 then [133, 1668, 59] else [133, 1674, 60])))) else (bif Nat.blt y 106 then (bif Nat.blt y 103 then (bif Nat.blt y 102 then [133, 1678, 61] else [133, 1686, 63]) else (bif Nat.blt y 104 then [133, 1682, 62] else (bif Nat.blt y 105 then [133, 1694, 65] else [133, 1690, 64]))) else (bif Nat.blt y 109 then (bif Nat.blt y 107 then [133, 1697] else (bif Nat.blt y 108 then [133, 1700] else [133, 1663, 58])) else (bif Nat.blt y 110 then [133, 1707] else (bif Nat.blt y 111 then [133, 1704, 66] else [133, 1722]))))) else (bif Nat.blt y 123 then (bif Nat.blt y 117 then (bif Nat.blt y 114 then (bif Nat.blt y 113 then [133, 1719, 69] else [133, 1715, 68]) else (bif Nat.blt y 115 then [133, 1711, 67] else (bif Nat.blt y 116 then [133, 1730, 71] else [133, 1726, 70]))) else (bif Nat.blt y 120 then (bif Nat.blt y 118 then [133, 1634, 1635] else (bif Nat.blt y 119 then [128, 810, 811] else [127, 807, 13])) else (bif Nat.blt y 121 then [127, 816, 14] else (bif Nat.blt y 122 then [127, 838, 17] else [127, 843, 18])))) else (bif Nat.blt y 129 then (bif Nat.blt y 126 then (bif Nat.blt y 124 then [127, 833, 16] else (bif Nat.blt y 125 then [127, 848] else [127, 829, 15])) else (bif Nat.blt y 127 then [127, 797, 798] else (bif Nat.blt y 128 then [128, 852, 853] else [119, 793, 794]))) else (bif Nat.blt y 132 then (bif Nat.blt y 130 then [133, 1746, 74] else (bif Nat.blt y 131 then [133, 1742, 73] else [133, 1738, 72])) else (bif Nat.blt y 133 then [133, 1733, 1734] else (bif Nat.blt y 134 then [119, 857, 858] else [133, 1630, 1631])))))) else (bif Nat.blt y 158 then (bif Nat.blt y 146 then (bif Nat.blt y 140 then (bif Nat.blt y 137 then (bif Nat.blt y 136 then [123, 865, 866] else [129, 874, 875]) else (bif Nat.blt y 138 then [119, 870, 19] else (bif Nat.blt y 139 then [129, 891, 892] else [129, 888, 20]))) else (bif Nat.blt y 143 then (bif Nat.blt y 141 then [129, 883, 884] else (bif Nat.blt y 142 then [129, 879, 880] else [119, 861, 862])) else (bif Nat.blt y 144 then [133, 1758, 76] else (bif Nat.blt y 145 then [133, 1754, 75] else [133, 1749, 1750])))) else (bif Nat.blt y 152 then (bif Nat.blt y 149 then (bif Nat.blt y 147 then [119, 901] else (bif Nat.blt y 148 then [123, 904, 905] else [119, 897, 898])) else (bif Nat.blt y 150 then [133, 1767] else (bif Nat.blt y 151 then [133, 1761, 1762] else [119, 913, 21]))) else (bif Nat.blt y 155 then (bif Nat.blt y 153 then [119, 908, 909] else (bif Nat.blt y 154 then [133, 1775, 77] else [133, 1770, 1771])) else (bif Nat.blt y 156 then [123, 922, 923] else (bif Nat.blt y 157 then [119, 928, 22] else [119, 917, 918]))))) else (bif Nat.blt y 169 then (bif Nat.blt y 163 then (bif Nat.blt y 160 then (bif Nat.blt y 159 then [133, 1783, 78] else [133, 1787, 79]) else (bif Nat.blt y 161 then [133, 1778, 1779] else (bif Nat.blt y 162 then [119, 932, 933] else [133, 1790, 1791]))) else (bif Nat.blt y 166 then (bif Nat.blt y 164 then [119, 937, 938] else (bif Nat.blt y 165 then [133, 1800, 80] else [133, 1794, 1795])) else (bif Nat.blt y 167 then [126, 945] else (bif Nat.blt y 168 then [119, 950, 23] else [119, 941, 942])))) else (bif Nat.blt y 175 then (bif Nat.blt y 172 then (bif Nat.blt y 170 then [133, 1808, 81] else (bif Nat.blt y 171 then [133, 1803, 1804] else [129, 957, 958])) else (bif Nat.blt y 173 then [119, 953, 954] else (bif Nat.blt y 174 then [133, 1816, 82] else [133, 1811, 1812]))) else (bif Nat.blt y 178 then (bif Nat.blt y 176 then [119, 965] else (bif Nat.blt y 177 then [119, 961, 962] else [133, 1819, 1820])) else (bif Nat.blt y 179 then [123, 976, 977] else (bif Nat.blt y 180 then [119, 972, 973] else [133, 1828, 83])))))))) else (bif Nat.blt y 271 then (bif Nat.blt y 226 then (bif Nat.blt y 203 then (bif Nat.blt y 192 then (bif Nat.blt y 186 then (bif Nat.blt y 183 then (bif Nat.blt y 182 then [133, 1823, 1824] else [123, 988, 989]) else (bif Nat.blt y 184 then [119, 984, 985] else (bif Nat.blt y 185 then [133, 1836, 84] else [133, 1831, 1832]))) else (bif Nat.blt y 189 then (bif Nat.blt y 187 then [119, 993, 994] else (bif Nat.blt y 188 then [133, 1839, 1840] else [126, 1002])) else (bif Nat.blt y 190 then [123, 1006, 1007] else (bif Nat.blt y 191 then [119, 997, 998] else [133, 1857, 85])))) else (bif Nat.blt y 197 then (bif Nat.blt y 194 then (bif Nat.blt y 193 then [133, 1865, 87] else [133, 1869, 88]) else (bif Nat.blt y 195 then [133, 1861, 86] else (bif Nat.blt y 196 then [133, 1851, 1852] else [119, 1010, 1011]))) else (bif Nat.blt y 200 then (bif Nat.blt y 198 then [133, 1872, 1873] else (bif Nat.blt y 199 then [119, 1014, 1015] else [133, 1843, 1844])) else (bif Nat.blt y 201 then [123, 1022, 1023] else (bif Nat.blt y 202 then [119, 1018, 1019] else [133, 1847, 1848]))))) else (bif Nat.blt y 214 then (bif Nat.blt y 208 then (bif Nat.blt y 205 then (bif Nat.blt y 204 then [129, 1030, 1031] else [119, 1026, 1027]) else (bif Nat.blt y 206 then [133, 1881, 89] else (bif Nat.blt y 207 then [133, 1876, 1877] else [119, 1035, 1036]))) else (bif Nat.blt y 211 then (bif Nat.blt y 209 then [133, 1884, 1885] else (bif Nat.blt y 210 then [119, 1044, 24] else [119, 1039, 1040])) else (bif Nat.blt y 212 then [133, 1893, 90] else (bif Nat.blt y 213 then [133, 1888, 1889] else [119, 1048, 1049])))) else (bif Nat.blt y 220 then (bif Nat.blt y 217 then (bif Nat.blt y 215 then [133, 1896, 1897] else (bif Nat.blt y 216 then [129, 1056, 1057] else [119, 1052, 1053])) else (bif Nat.blt y 218 then [133, 1905, 91] else (bif Nat.blt y 219 then [133, 1900, 1901] else [119, 1061, 1062]))) else (bif Nat.blt y 223 then (bif Nat.blt y 221 then [133, 1908, 1909] else (bif Nat.blt y 222 then [129, 1069, 1070] else [119, 1065, 1066])) else (bif Nat.blt y 224 then [133, 1917, 92] else (bif Nat.blt y 225 then [133, 1912, 1913] else [119, 1078, 25])))))) else (bif Nat.blt y 248 then (bif Nat.blt y 237 then (bif Nat.blt y 231 then (bif Nat.blt y 228 then (bif Nat.blt y 227 then [119, 1073, 1074] else [133, 1920, 1921]) else (bif Nat.blt y 229 then [123, 1085, 1086] else (bif Nat.blt y 230 then [119, 1081, 1082] else [133, 1929, 93]))) else (bif Nat.blt y 234 then (bif Nat.blt y 232 then [133, 1924, 1925] else (bif Nat.blt y 233 then [125, 1097] else [123, 1093, 1094])) else (bif Nat.blt y 235 then [119, 1089, 1090] else (bif Nat.blt y 236 then [133, 1937, 94] else [133, 1932, 1933])))) else (bif Nat.blt y 242 then (bif Nat.blt y 239 then (bif Nat.blt y 238 then [119, 1100, 1101] else [133, 1940, 1941]) else (bif Nat.blt y 240 then [125, 1108] else (bif Nat.blt y 241 then [119, 1104, 1105] else [133, 1951, 95]))) else (bif Nat.blt y 245 then (bif Nat.blt y 243 then [133, 1946, 1947] else (bif Nat.blt y 244 then [119, 1111, 1112] else [133, 1955, 1956])) else (bif Nat.blt y 246 then [123, 1119, 1120] else (bif Nat.blt y 247 then [119, 1115, 1116] else [133, 1966, 96]))))) else (bif Nat.blt y 259 then (bif Nat.blt y 253 then (bif Nat.blt y 250 then (bif Nat.blt y 249 then [133, 1959, 1960] else [119, 1123, 1124]) else (bif Nat.blt y 251 then [133, 1969, 1970] else (bif Nat.blt y 252 then [119, 1127, 1128] else [133, 1978, 97]))) else (bif Nat.blt y 256 then (bif Nat.blt y 254 then [133, 1973, 1974] else (bif Nat.blt y 255 then [119, 1131, 1132] else [133, 1981, 1982])) else (bif Nat.blt y 257 then [119, 1135, 1136] else (bif Nat.blt y 258 then [133, 1985, 1986] else [119, 1139, 1140])))) else (bif Nat.blt y 265 then (bif Nat.blt y 262 then (bif Nat.blt y 260 then [133, 1989, 1990] else (bif Nat.blt y 261 then [119, 1143, 1144] else [133, 1993, 1994])) else (bif Nat.blt y 263 then [130, 1156] else (bif Nat.blt y 264 then [130, 1151, 1152] else [119, 1147, 1148]))) else (bif Nat.blt y 268 then (bif Nat.blt y 266 then [133, 2031, 101] else (bif Nat.blt y 267 then [133, 2026, 2027] else [119, 1164, 1165])) else (bif Nat.blt y 269 then [133, 2034, 2035] else (bif Nat.blt y 270 then [130, 1179, 26] else [125, 1182]))))))) else (bif Nat.blt y 316 then (bif Nat.blt y 293 then (bif Nat.blt y 282 then (bif Nat.blt y 276 then (bif Nat.blt y 273 then (bif Nat.blt y 272 then [130, 1172, 1173] else [119, 1168, 1169]) else (bif Nat.blt y 274 then [133, 2038, 2039] else (bif Nat.blt y 275 then [119, 1185, 1186] else [133, 1997, 1998]))) else (bif Nat.blt y 279 then (bif Nat.blt y 277 then [131, 1207, 29] else (bif Nat.blt y 278 then [131, 1213, 30] else [131, 1203, 28])) else (bif Nat.blt y 280 then [131, 1199, 27] else (bif Nat.blt y 281 then [131, 1217, 31] else [131, 1221, 32])))) else (bif Nat.blt y 287 then (bif Nat.blt y 284 then (bif Nat.blt y 283 then [131, 1193, 1194] else [131, 1224, 1225]) else (bif Nat.blt y 285 then [119, 1189, 1190] else (bif Nat.blt y 286 then [133, 2010, 99] else [133, 2014, 100]))) else (bif Nat.blt y 290 then (bif Nat.blt y 288 then [133, 2006, 98] else (bif Nat.blt y 289 then [133, 2001, 2002] else [131, 1232, 1233])) else (bif Nat.blt y 291 then [119, 1228, 1229] else (bif Nat.blt y 292 then [133, 2017, 2018] else [119, 1240]))))) else (bif Nat.blt y 304 then (bif Nat.blt y 298 then (bif Nat.blt y 295 then (bif Nat.blt y 294 then [129, 1247, 1248] else [119, 1244, 33]) else (bif Nat.blt y 296 then [119, 1236, 1237] else (bif Nat.blt y 297 then [133, 2021, 2022] else [119, 1251, 1252]))) else (bif Nat.blt y 301 then (bif Nat.blt y 299 then [133, 2048, 102] else (bif Nat.blt y 300 then [133, 2043, 2044] else [119, 1263])) else (bif Nat.blt y 302 then [119, 1260, 34] else (bif Nat.blt y 303 then [119, 1255, 1256] else [133, 2056, 103])))) else (bif Nat.blt y 310 then (bif Nat.blt y 307 then (bif Nat.blt y 305 then [133, 2051, 2052] else (bif Nat.blt y 306 then [119, 1266, 1267] else [133, 2059, 2060])) else (bif Nat.blt y 308 then [119, 1270, 1271] else (bif Nat.blt y 309 then [133, 2063, 2064] else [119, 1274, 1275]))) else (bif Nat.blt y 313 then (bif Nat.blt y 311 then [133, 2067, 2068] else (bif Nat.blt y 312 then [119, 1283] else [119, 1279, 1280])) else (bif Nat.blt y 314 then [133, 2073, 2074] else (bif Nat.blt y 315 then [119, 1291, 35] else [119, 1286, 1287])))))) else (bif Nat.blt y 339 then (bif Nat.blt y 327 then (bif Nat.blt y 321 then (bif Nat.blt y 318 then (bif Nat.blt y 317 then [133, 2082, 104] else [133, 2077, 2078]) else (bif Nat.blt y 319 then [132, 1307, 37] else (bif Nat.blt y 320 then [132, 1303, 36] else [132, 1316, 39]))) else (bif Nat.blt y 324 then (bif Nat.blt y 322 then [132, 1312, 38] else (bif Nat.blt y 323 then [132, 1321, 40] else [132, 1329, 42])) else (bif Nat.blt y 325 then [132, 1334, 43] else (bif Nat.blt y 326 then [123, 1337, 1338] else [132, 1347, 45])))) else (bif Nat.blt y 333 then (bif Nat.blt y 330 then (bif Nat.blt y 328 then [132, 1342, 44] else (bif Nat.blt y 329 then [132, 1353, 46] else [132, 1357, 47])) else (bif Nat.blt y 331 then [132, 1364, 48] else (bif Nat.blt y 332 then [132, 1325, 41] else [132, 1368, 49]))) else (bif Nat.blt y 336 then (bif Nat.blt y 334 then [132, 1298, 1299] else (bif Nat.blt y 335 then [119, 1294, 1295] else [133, 2099, 107])) else (bif Nat.blt y 337 then [133, 2103, 108] else (bif Nat.blt y 338 then [133, 2107, 109] else [133, 2115, 111]))))) else (bif Nat.blt y 350 then (bif Nat.blt y 344 then (bif Nat.blt y 341 then (bif Nat.blt y 340 then [133, 2111, 110] else [133, 2095, 106]) else (bif Nat.blt y 342 then [133, 2128, 114] else (bif Nat.blt y 343 then [133, 2124, 113] else [133, 2132, 115]))) else (bif Nat.blt y 347 then (bif Nat.blt y 345 then [133, 2120, 112] else (bif Nat.blt y 346 then [133, 2091, 105] else [133, 2085, 2086])) else (bif Nat.blt y 348 then [132, 1375, 1376] else (bif Nat.blt y 349 then [119, 1371, 1372] else [133, 2135, 2136])))) else (bif Nat.blt y 356 then (bif Nat.blt y 353 then (bif Nat.blt y 351 then [132, 1383, 1384] else (bif Nat.blt y 352 then [119, 1379, 1380] else [133, 2139, 2140])) else (bif Nat.blt y 354 then [119, 1387, 1388] else (bif Nat.blt y 355 then [133, 2149, 116] else [133, 2143, 2144]))) else (bif Nat.blt y 359 then (bif Nat.blt y 357 then [119, 1391, 1392] else (bif Nat.blt y 358 then [133, 2157, 117] else [133, 2152, 2153])) else (bif Nat.blt y 360 then [119, 1395, 1396] else (bif Nat.blt y 361 then [133, 2160, 2161] else [])))))))))
def ij_oi : List (Nat × Nat) := [(0, 3), (1, 3), (2, 3), (3, 3), (4, 3), (5, 3), (6, 3), (7, 3), (8, 3), (9, 3), (10, 1), (11, 1)]
def ij_ac : List (Nat × Nat) := [(4, 27), (6, 32), (10, 160)]
def ij_gs : List (Nat × Nat × Nat) := [(10, 402, 1), (10, 409, 2), (14, 38, 3), (14, 1053, 4)]
def ij_oip : List Nat := [374, 410, 172, 354, 220, 214, 299, 293, 153, 388, 144, 1403]
def ij_acp : List Nat := [227, 855, 599]
def ij_gsp : List Nat := [748, 758, 671, 687]
def ij_gsw (k : Nat) : String × String × String := match k with
  | 1 => ("ScaleForge", "LEAST", "[I")
  | 2 => ("ScaleForge", "MOST", "[I")
  | 3 => ("java/lang/String", "COMPACT_STRINGS", "Z")
  | 4 => ("jdk/internal/util/Preconditions", "SIOOBE_FORMATTER", "Ljava/util/function/BiFunction;")
  | _ => ("ScaleForge", "WITHOUT", "[I")
def ij_ms : List Cond := [.instanceMethod Lib.objectInit, .code Lib.objectInit ⟨#[0xb1]⟩ 1 none, .native arraycopyName, .static arraycopyName, .initialized "java/lang/System", .fieldLink "java/lang/String" 9 "java/lang/String" "value" "[B", .fieldLink "java/lang/String" 15 "java/lang/String" "coder" "B", .arrayClass .int, .arrayClass .long, .arrayClass .byte, .arrayClass .boolean]
def ij_msp : List Nat := [145, 146, 229, 228, 124, 2164, 2165, 276, 166, 208, 1577]
def ij_ip : List Nat := [370, 406, 168, 350, 216, 210, 295, 289, 149, 384, 140, 1399, 130, 132, 121, 129, 123, 122, 128, 127, 120, 131, 119, 133]
def ij_lp : List Nat := [378, 380, 429, 431, 433, 435, 437, 439, 441, 443, 445, 447, 449, 451, 453, 455, 457, 459, 189, 191, 193, 195, 197, 199, 201, 203, 205, 360, 362, 364, 366, 265, 267, 269, 271, 273, 281, 283, 285, 318, 320, 322, 324, 326, 328, 336, 338, 340, 342, 159, 161, 163, 394, 396, 398, 400, 402, 483, 485, 487, 489, 491, 493, 495, 497, 499, 501, 503, 505, 507, 509, 511, 513, 515, 517, 519, 1464, 1466, 1468, 1470, 1472, 1474, 1476, 1478, 1480, 1482, 1484, 1486, 1488, 1490, 1492, 1494, 1496, 1498, 1500, 1502, 1504, 1506, 1508, 1510, 1512, 1514, 1516, 1518, 1520, 1522, 1524, 1526, 1528, 1530, 1532, 1534, 1536, 1538, 1540, 1542, 1544, 1546, 1548, 1550, 1552, 1554, 1556, 1558, 1560, 1562, 1564, 1566, 1568, 1570, 1572, 1574]
end
section
/-! The tables hold what the theorem asks of them. -/
theorem ij_in_gw {ws : List Cond} {ps : List Nat} (h1 : ws = ps.filterMap (fun i => lw_tbl[i]?)) (h2 : ws.all goodWord = true) : ∀ w ∈ ws, w ∈ ij_gw := by
  intro w hw
  have h3 := List.all_eq_true.mp h2 w hw
  rw [h1] at hw
  obtain ⟨i, -, hi⟩ := List.mem_filterMap.mp hw
  exact List.mem_filter.mpr ⟨List.mem_of_getElem? hi, h3⟩
set_option maxRecDepth 20000 in
theorem ij_flw0 : ij_fl.map (fun q => Cond.fieldLink (ij_cn q.1) q.2.1 (ij_tx q.2.2.1 q.2.2.2).1 (ij_tx q.2.2.1 q.2.2.2).2.1 (ij_tx q.2.2.1 q.2.2.2).2.2.1) = ij_flp.filterMap (fun i => lw_tbl[i]?) := by decide +kernel
theorem ij_flw : ∀ q ∈ ij_fl, Cond.fieldLink (ij_cn q.1) q.2.1 (ij_tx q.2.2.1 q.2.2.2).1 (ij_tx q.2.2.1 q.2.2.2).2.1 (ij_tx q.2.2.1 q.2.2.2).2.2.1 ∈ ij_gw := fun q hq => ij_in_gw ij_flw0 (by decide +kernel) _ (List.mem_map.mpr ⟨q, hq, rfl⟩)
set_option maxRecDepth 20000 in
theorem ij_klw0 : ij_kl.map (fun q => Cond.methodLink (ij_cn q.1) q.2.1 (ij_nm q.2.2)) = ij_klp.filterMap (fun i => lw_tbl[i]?) := by decide +kernel
theorem ij_klw : ∀ q ∈ ij_kl, Cond.methodLink (ij_cn q.1) q.2.1 (ij_nm q.2.2) ∈ ij_gw := fun q hq => ij_in_gw ij_klw0 (by decide +kernel) _ (List.mem_map.mpr ⟨q, hq, rfl⟩)
set_option maxRecDepth 20000 in
theorem ij_cow : ∀ q ∈ ij_co, Cond.constant (ij_cn q.1) q.2.1 (Int32.ofNat q.2.2) ∈ ij_gw := fun q hq => ij_in_gw (ws := ij_co.map (fun q => Cond.constant (ij_cn q.1) q.2.1 (Int32.ofNat q.2.2))) (ps := ij_cop) (by decide +kernel) (by decide +kernel) _ (List.mem_map.mpr ⟨q, hq, rfl⟩)
set_option maxRecDepth 20000 in
theorem ij_c2w : ∀ q ∈ ij_c2, Cond.constantLong (ij_cn q.1) q.2.1 (Int64.ofNat q.2.2) ∈ ij_gw := fun q hq => ij_in_gw (ws := ij_c2.map (fun q => Cond.constantLong (ij_cn q.1) q.2.1 (Int64.ofNat q.2.2))) (ps := ij_c2p) (by decide +kernel) (by decide +kernel) _ (List.mem_map.mpr ⟨q, hq, rfl⟩)
set_option maxRecDepth 20000 in
theorem ij_ccw : ∀ q ∈ ij_cc, Cond.classLink (ij_cn q.1) q.2.1 (ij_cn q.2.2) ∈ ij_gw := fun q hq => ij_in_gw (ws := ij_cc.map (fun q => Cond.classLink (ij_cn q.1) q.2.1 (ij_cn q.2.2))) (ps := ij_ccp) (by decide +kernel) (by decide +kernel) _ (List.mem_map.mpr ⟨q, hq, rfl⟩)
set_option maxRecDepth 20000 in
theorem ij_oiw : ∀ q ∈ ij_oi, Cond.methodLink (ij_cn q.1) q.2 Lib.objectInit ∈ ij_gw := fun q hq => ij_in_gw (ws := ij_oi.map (fun q => Cond.methodLink (ij_cn q.1) q.2 Lib.objectInit)) (ps := ij_oip) (by decide +kernel) (by decide +kernel) _ (List.mem_map.mpr ⟨q, hq, rfl⟩)
set_option maxRecDepth 20000 in
theorem ij_acw : ∀ q ∈ ij_ac, Cond.methodLink (ij_cn q.1) q.2 arraycopyName ∈ ij_gw := fun q hq => ij_in_gw (ws := ij_ac.map (fun q => Cond.methodLink (ij_cn q.1) q.2 arraycopyName)) (ps := ij_acp) (by decide +kernel) (by decide +kernel) _ (List.mem_map.mpr ⟨q, hq, rfl⟩)
set_option maxRecDepth 20000 in
theorem ij_gsW : ∀ q ∈ ij_gs, Cond.fieldLink (ij_cn q.1) q.2.1 (ij_gsw q.2.2).1 (ij_gsw q.2.2).2.1 (ij_gsw q.2.2).2.2 ∈ ij_gw := fun q hq => ij_in_gw (ws := ij_gs.map (fun q => Cond.fieldLink (ij_cn q.1) q.2.1 (ij_gsw q.2.2).1 (ij_gsw q.2.2).2.1 (ij_gsw q.2.2).2.2)) (ps := ij_gsp) (by decide +kernel) (by decide +kernel) _ (List.mem_map.mpr ⟨q, hq, rfl⟩)
set_option maxRecDepth 20000 in
theorem ij_msw : ∀ w ∈ ij_ms, w ∈ ij_gw := ij_in_gw (ps := ij_msp) (by decide +kernel) (by decide +kernel)
set_option maxRecDepth 20000 in
theorem ij_iw : ∀ w ∈ ((List.range 12).map (fun k => Cond.instantiable (ij_cn k) (ij_nf k)) ++ (List.range 12).map (fun k => Cond.initialized (ij_cn k))), w ∈ ij_gw := ij_in_gw (ps := ij_ip) (by decide +kernel) (by decide +kernel)
set_option maxRecDepth 20000 in
theorem ij_lw : ∀ w ∈ (List.range 12).flatMap (fun k => u_ws (ij_cn k) (ij_tx k) (ij_nf k)), w ∈ ij_gw := ij_in_gw (ps := ij_lp) (by decide +kernel) (by decide +kernel)
set_option maxRecDepth 20000 in
theorem ij_mw0 : ∀ w ∈ (List.range' 0 60).flatMap ij_mw, w ∈ ij_gw := ij_in_gw (ps := (List.range' 0 60).flatMap ij_mp) (by decide +kernel) (by decide +kernel)
set_option maxRecDepth 20000 in
theorem ij_mw60 : ∀ w ∈ (List.range' 60 60).flatMap ij_mw, w ∈ ij_gw := ij_in_gw (ps := (List.range' 60 60).flatMap ij_mp) (by decide +kernel) (by decide +kernel)
set_option maxRecDepth 20000 in
theorem ij_mw120 : ∀ w ∈ (List.range' 120 60).flatMap ij_mw, w ∈ ij_gw := ij_in_gw (ps := (List.range' 120 60).flatMap ij_mp) (by decide +kernel) (by decide +kernel)
set_option maxRecDepth 20000 in
theorem ij_mw180 : ∀ w ∈ (List.range' 180 60).flatMap ij_mw, w ∈ ij_gw := ij_in_gw (ps := (List.range' 180 60).flatMap ij_mp) (by decide +kernel) (by decide +kernel)
set_option maxRecDepth 20000 in
theorem ij_mw240 : ∀ w ∈ (List.range' 240 60).flatMap ij_mw, w ∈ ij_gw := ij_in_gw (ps := (List.range' 240 60).flatMap ij_mp) (by decide +kernel) (by decide +kernel)
set_option maxRecDepth 20000 in
theorem ij_mw300 : ∀ w ∈ (List.range' 300 60).flatMap ij_mw, w ∈ ij_gw := ij_in_gw (ps := (List.range' 300 60).flatMap ij_mp) (by decide +kernel) (by decide +kernel)
set_option maxRecDepth 20000 in
theorem ij_mw360 : ∀ w ∈ (List.range' 360 2).flatMap ij_mw, w ∈ ij_gw := ij_in_gw (ps := (List.range' 360 2).flatMap ij_mp) (by decide +kernel) (by decide +kernel)
theorem ij_mww : ∀ y, y < 362 → ∀ w ∈ ij_mw y, w ∈ ij_gw := by
  intro y hy w hw
  have key : ∀ a n, (∀ w ∈ (List.range' a n).flatMap ij_mw, w ∈ ij_gw) → a ≤ y → y < a + n → w ∈ ij_gw := fun a n h h1 h2 => h w (List.mem_flatMap.mpr ⟨y, List.mem_range'_1.mpr ⟨h1, h2⟩, hw⟩)
  rcases Nat.lt_or_ge y 60 with h0 | h0
  · exact key 0 60 ij_mw0 (by omega) (by omega)
  rcases Nat.lt_or_ge y 120 with h1 | h1
  · exact key 60 60 ij_mw60 (by omega) (by omega)
  rcases Nat.lt_or_ge y 180 with h2 | h2
  · exact key 120 60 ij_mw120 (by omega) (by omega)
  rcases Nat.lt_or_ge y 240 with h3 | h3
  · exact key 180 60 ij_mw180 (by omega) (by omega)
  rcases Nat.lt_or_ge y 300 with h4 | h4
  · exact key 240 60 ij_mw240 (by omega) (by omega)
  rcases Nat.lt_or_ge y 360 with h5 | h5
  · exact key 300 60 ij_mw300 (by omega) (by omega)
  exact key 360 2 ij_mw360 (by omega) (by omega)
set_option maxRecDepth 20000 in
set_option maxHeartbeats 4000000 in
theorem ij_cd0 : ∀ w ∈ (List.range' 0 40).map ij_cd, w ∈ ij_gw := ij_in_gw (ps := [152, 171, 224, 236, 243, 240, 249, 246, 253, 233, 219, 213, 298, 292, 353, 373, 387, 409, 143, 1407, 1402, 525, 1581, 529, 1585, 533, 1589, 541, 545, 549, 553, 537, 1596, 1600, 1593, 564, 568, 560, 577, 572]) rfl rfl
set_option maxRecDepth 20000 in
set_option maxHeartbeats 4000000 in
theorem ij_cd40 : ∀ w ∈ (List.range' 40 40).map ij_cd, w ∈ ij_gw := ij_in_gw (ps := [557, 1608, 1611, 1604, 585, 589, 581, 1615, 598, 594, 1620, 607, 603, 1628, 1624, 619, 628, 631, 634, 638, 641, 645, 648, 652, 624, 670, 666, 680, 691, 686, 683, 676, 662, 657, 732, 728, 740, 744, 736, 747]) rfl rfl
set_option maxRecDepth 20000 in
set_option maxHeartbeats 4000000 in
theorem ij_cd80 : ∀ w ∈ (List.range' 80 40).map ij_cd, w ∈ ij_gw := ij_in_gw (ps := [753, 756, 763, 768, 772, 723, 615, 777, 784, 781, 791, 611, 1648, 1651, 1654, 982, 1644, 1640, 1660, 1669, 1675, 1679, 1687, 1683, 1695, 1691, 1698, 1701, 1664, 1708, 1705, 1723, 1720, 1716, 1712, 1731, 1727, 1636, 812, 808]) rfl rfl
set_option maxRecDepth 20000 in
set_option maxHeartbeats 4000000 in
theorem ij_cd120 : ∀ w ∈ (List.range' 120 40).map ij_cd, w ∈ ij_gw := ij_in_gw (ps := [817, 839, 844, 834, 849, 830, 799, 854, 795, 1747, 1743, 1739, 1735, 859, 1632, 867, 876, 871, 893, 889, 885, 881, 863, 1759, 1755, 1751, 902, 906, 899, 1768, 1763, 914, 910, 1776, 1772, 924, 929, 919, 1784, 1788]) rfl rfl
set_option maxRecDepth 20000 in
set_option maxHeartbeats 4000000 in
theorem ij_cd160 : ∀ w ∈ (List.range' 160 40).map ij_cd, w ∈ ij_gw := ij_in_gw (ps := [1780, 934, 1792, 939, 1801, 1796, 946, 951, 943, 1809, 1805, 959, 955, 1817, 1813, 966, 963, 1821, 978, 974, 1829, 1825, 990, 986, 1837, 1833, 995, 1841, 1003, 1008, 999, 1858, 1866, 1870, 1862, 1853, 1012, 1874, 1016, 1845]) rfl rfl
set_option maxRecDepth 20000 in
set_option maxHeartbeats 4000000 in
theorem ij_cd200 : ∀ w ∈ (List.range' 200 40).map ij_cd, w ∈ ij_gw := ij_in_gw (ps := [1024, 1020, 1849, 1032, 1028, 1882, 1878, 1037, 1886, 1045, 1041, 1894, 1890, 1050, 1898, 1058, 1054, 1906, 1902, 1063, 1910, 1071, 1067, 1918, 1914, 1079, 1075, 1922, 1087, 1083, 1930, 1926, 1098, 1095, 1091, 1938, 1934, 1102, 1942, 1109]) rfl rfl
set_option maxRecDepth 20000 in
set_option maxHeartbeats 4000000 in
theorem ij_cd240 : ∀ w ∈ (List.range' 240 40).map ij_cd, w ∈ ij_gw := ij_in_gw (ps := [1106, 1952, 1948, 1113, 1957, 1121, 1117, 1967, 1961, 1125, 1971, 1129, 1979, 1975, 1133, 1983, 1137, 1987, 1141, 1991, 1145, 1995, 1157, 1153, 1149, 2032, 2028, 1166, 2036, 1180, 1183, 1174, 1170, 2040, 1187, 1999, 1208, 1214, 1204, 1200]) rfl rfl
set_option maxRecDepth 20000 in
set_option maxHeartbeats 4000000 in
theorem ij_cd280 : ∀ w ∈ (List.range' 280 40).map ij_cd, w ∈ ij_gw := ij_in_gw (ps := [1218, 1222, 1195, 1226, 1191, 2011, 2015, 2007, 2003, 1234, 1230, 2019, 1241, 1249, 1245, 1238, 2023, 1253, 2049, 2045, 1264, 1261, 1257, 2057, 2053, 1268, 2061, 1272, 2065, 1276, 2069, 1284, 1281, 2075, 1292, 1288, 2083, 2079, 1308, 1304]) rfl rfl
set_option maxRecDepth 20000 in
set_option maxHeartbeats 4000000 in
theorem ij_cd320 : ∀ w ∈ (List.range' 320 40).map ij_cd, w ∈ ij_gw := ij_in_gw (ps := [1317, 1313, 1322, 1330, 1335, 1339, 1348, 1343, 1354, 1358, 1365, 1326, 1369, 1300, 1296, 2100, 2104, 2108, 2116, 2112, 2096, 2129, 2125, 2133, 2121, 2092, 2087, 1377, 1373, 2137, 1385, 1381, 2141, 1389, 2150, 2145, 1393, 2158, 2154, 1397]) rfl rfl
set_option maxRecDepth 20000 in
set_option maxHeartbeats 4000000 in
theorem ij_cd360 : ∀ w ∈ (List.range' 360 1).map ij_cd, w ∈ ij_gw := ij_in_gw (ps := [2162]) rfl rfl
theorem ij_cdw : ∀ y, y < 361 → ij_cd y ∈ ij_gw := by
  intro y hy
  have key : ∀ a n, (∀ w ∈ (List.range' a n).map ij_cd, w ∈ ij_gw) → a ≤ y → y < a + n → ij_cd y ∈ ij_gw := fun a n h h1 h2 => h _ (List.mem_map.mpr ⟨y, List.mem_range'_1.mpr ⟨h1, h2⟩, rfl⟩)
  rcases Nat.lt_or_ge y 40 with h0 | h0
  · exact key 0 40 ij_cd0 (by omega) (by omega)
  rcases Nat.lt_or_ge y 80 with h1 | h1
  · exact key 40 40 ij_cd40 (by omega) (by omega)
  rcases Nat.lt_or_ge y 120 with h2 | h2
  · exact key 80 40 ij_cd80 (by omega) (by omega)
  rcases Nat.lt_or_ge y 160 with h3 | h3
  · exact key 120 40 ij_cd120 (by omega) (by omega)
  rcases Nat.lt_or_ge y 200 with h4 | h4
  · exact key 160 40 ij_cd160 (by omega) (by omega)
  rcases Nat.lt_or_ge y 240 with h5 | h5
  · exact key 200 40 ij_cd200 (by omega) (by omega)
  rcases Nat.lt_or_ge y 280 with h6 | h6
  · exact key 240 40 ij_cd240 (by omega) (by omega)
  rcases Nat.lt_or_ge y 320 with h7 | h7
  · exact key 280 40 ij_cd280 (by omega) (by omega)
  rcases Nat.lt_or_ge y 360 with h8 | h8
  · exact key 320 40 ij_cd320 (by omega) (by omega)
  exact key 360 1 ij_cd360 (by omega) (by omega)
end
section
/-! Each row of each method, by a program that the kernel runs. -/
def ij_ts (i : Instr) : Bool := match i with
  | .tableswitch _ _ _ _ => true
  | _ => false
noncomputable def ij_ckR (y : Nat) (i : Instr) (a b : Nat) : Bool := match i with
  | .getfield idx => decide ((ij_ow y, idx, a, b) ∈ ij_fl) || (Nat.beq (ij_ow y) 14 && Nat.beq a 114 && ((Nat.beq b 0 && Nat.beq idx 9) || (Nat.beq b 1 && Nat.beq idx 15)))
  | .getstatic idx => (decide ((ij_ow y, idx, a) ∈ ij_gs) && Nat.blt 0 a && Nat.blt a 5) || (Nat.beq (ij_ow y) 4 && Nat.beq idx 24 && Nat.beq a 0)
  | .ldc idx => (Nat.beq a 0 && decide ((ij_ow y, idx, b) ∈ ij_co)) || (Nat.beq a 1 && ij_st.any (fun q => Nat.beq q.1 (ij_ow y) && Nat.beq q.2.1 idx && Nat.beq q.2.2.2 b))
  | .ldc_w idx => decide ((ij_ow y, idx, b) ∈ ij_co)
  | .ldc2_w idx => decide ((ij_ow y, idx, b) ∈ ij_c2)
  | .invokespecial idx => !(Nat.beq a 999999) || (decide ((ij_ow y, idx) ∈ ij_oi) && Nat.ble 1 (ij_fr y) && Nat.ble 20 (ij_lo y))
  | _ => true
noncomputable def ij_ckW (y : Nat) (i : Instr) (a b : Nat) : Bool := match i with
  | .putfield idx => decide ((ij_ow y, idx, a, b) ∈ ij_fl) && Nat.blt a 12 && Nat.blt b (ij_nf a) && (!(ij_tx a b).2.2.2 || (((ij_nm y).name == "<init>") && ((ij_tx a b).1 == (ij_nm y).cls)))
  | .newarray t => !(Nat.beq (ij_akind t) 0)
  | .anewarray idx => decide ((ij_ow y, idx, ij_ecl a) ∈ ij_cc)
  | .new idx => Nat.blt a 12 && Nat.beq b (ij_nf a) && decide ((ij_ow y, idx, a) ∈ ij_cc)
  | .invokestatic idx => !(Nat.beq a 999998) || (decide ((ij_ow y, idx) ∈ ij_ac) && Nat.ble 1 (ij_fr y) && Nat.ble 26 (ij_lo y))
  | _ => true
noncomputable def ij_ckB (y a b : Nat) : Bool := Nat.blt a 361 && (Nat.blt 0 (ij_mk a) && Nat.blt (ij_mk a) 4) && !((ij_nm a).cls == "java/lang/invoke/MethodHandle") && !((ij_nm a).cls == "java/lang/invoke/VarHandle") && decide ((parseMethodDescriptor (ij_nm a).desc).map (fun d => d.parameters.length) = some b) && Nat.ble (ij_fr a + 1) (ij_fr y) && Nat.ble (8 + (ij_ml a + 11) + ij_lo a) (ij_lo y)
noncomputable def ij_ckC (y : Nat) (i : Instr) (a b c : Nat) : Bool := match i with
  | .invokevirtual idx => Nat.blt c 10 || (ij_ckB y a b && decide ((ij_ow y, idx, a) ∈ ij_kl) && Nat.beq (ij_mk a) 3 && ((ij_nm a).cls == (if c = 30 then "java/lang/String" else ij_cn (c - 10))))
  | .invokestatic idx => (!(Nat.beq c 1) || (ij_ckB y a b && decide ((ij_ow y, idx, a) ∈ ij_kl) && Nat.beq (ij_mk a) 1)) && (!(Nat.beq c 4) || (ij_ckB y a b && decide ((ij_ow y, idx, a) ∈ ij_kn) && Nat.beq (ij_mk a) 1))
  | .invokespecial idx => (!(Nat.beq c 2) || (ij_ckB y a b && decide ((ij_ow y, idx, a) ∈ ij_kl) && (Nat.beq (ij_mk a) 2 || Nat.beq (ij_mk a) 3) && ((ij_nm a).name == "<init>") && (ij_rt a).isNone)) && (!(Nat.beq c 3) || (ij_ckB y a b && decide ((ij_ow y, idx, a) ∈ ij_kn) && (Nat.beq (ij_mk a) 2 || Nat.beq (ij_mk a) 3) && ((ij_nm a).name == "<init>") && (ij_rt a).isNone))
  | _ => true
noncomputable def ij_ck (y : Nat) (q : Nat × ij_E) : Bool := (Nat.beq q.2.2.1 (ij_len q.2.1) || ij_ts q.2.1) && ij_jok q.1 q.2.1 && ij_ckR y q.2.1 q.2.2.2.1 q.2.2.2.2.1 && ij_ckW y q.2.1 q.2.2.2.1 q.2.2.2.2.1 && ij_ckC y q.2.1 q.2.2.2.1 q.2.2.2.2.1 q.2.2.2.2.2
theorem ij_beq {a b : Nat} (h : Nat.beq a b = true) : a = b := Nat.eq_of_beq_eq_true h
theorem ij_blt {a b : Nat} (h : Nat.blt a b = true) : a < b := Nat.le_of_ble_eq_true h
theorem ij_ble {a b : Nat} (h : Nat.ble a b = true) : a ≤ b := Nat.le_of_ble_eq_true h
theorem ij_ms_in (k : Nat) {w : Cond} (h : ij_ms[k]? = some w) : w ∈ ij_gw := ij_msw w (List.mem_of_getElem? h)
theorem ij_fl_ok : ∀ q ∈ ij_fl, q.2.2.1 < 12 ∧ q.2.2.2 < ij_nf q.2.2.1 := by decide +kernel
theorem ij_ckR_ok {y : Nat} {i : Instr} {a b : Nat} (h : ij_ckR y i a b = true) : ij_okR ij_X0 ij_gw ij_n1 ij_sr (ij_nm y).cls (ij_room ij_Z0 y 0 0) i a b := by
  unfold ij_ckR at h
  unfold ij_okR
  cases i <;> first | exact True.intro | skip
  · next idx =>
    dsimp only at h
    simp only [Bool.or_eq_true, Bool.and_eq_true, decide_eq_true_eq] at h
    rcases h with h | ⟨⟨h1, h2⟩, ⟨h3, h4⟩ | ⟨h3, h4⟩⟩
    · exact Or.inl ⟨(ij_fl_ok _ h).1, (ij_fl_ok _ h).2, ij_flw _ h⟩
    · refine Or.inr (Or.inl ⟨ij_beq h2, ij_beq h3, ?_⟩)
      show Cond.fieldLink (ij_cn (ij_ow y)) idx _ _ _ ∈ ij_gw
      rw [ij_beq h1, ij_beq h4]
      exact ij_ms_in 5 rfl
    · refine Or.inr (Or.inr ⟨ij_beq h2, ij_beq h3, ?_⟩)
      show Cond.fieldLink (ij_cn (ij_ow y)) idx _ _ _ ∈ ij_gw
      rw [ij_beq h1, ij_beq h4]
      exact ij_ms_in 6 rfl
  · next idx =>
    dsimp only at h
    simp only [Bool.or_eq_true, Bool.and_eq_true, decide_eq_true_eq] at h
    rcases h with ⟨⟨h1, h2⟩, h3⟩ | ⟨⟨h1, h2⟩, h3⟩
    · have g2 := ij_blt h2
      have g3 := ij_blt h3
      have hw := ij_gsW _ h1
      have : a = 1 ∨ a = 2 ∨ a = 3 ∨ a = 4 := by omega
      rcases this with rfl | rfl | rfl | rfl
      · exact Or.inl ⟨by omega, Or.inl hw⟩
      · exact Or.inl ⟨by omega, Or.inl hw⟩
      · exact Or.inr (Or.inl ⟨rfl, hw⟩)
      · exact Or.inr (Or.inr ⟨rfl, hw⟩)
    · cases ij_beq h3
      refine Or.inl ⟨by omega, Or.inr ⟨"ScaleForge", ?_⟩⟩
      show (ij_cn (ij_ow y), idx, _, _, _, _) ∈ ij_n1
      rw [ij_beq h1, ij_beq h2]
      exact List.mem_singleton.mpr rfl
  · next idx =>
    dsimp only at h ⊢
    intro ha
    simp only [Bool.or_eq_true, Bool.and_eq_true, decide_eq_true_eq, Bool.not_eq_true'] at h
    rcases h with h | ⟨⟨h1, h2⟩, h3⟩
    · rw [ha] at h; cases h
    · exact ⟨ij_oiw _ h1, ij_ms_in 0 rfl, ij_ms_in 1 rfl, ij_ble h2, ij_ble h3⟩
  · next idx =>
    dsimp only at h
    simp only [Bool.or_eq_true, Bool.and_eq_true, decide_eq_true_eq] at h
    rcases h with ⟨h1, h2⟩ | ⟨h1, h2⟩
    · exact Or.inl ⟨ij_beq h1, ij_cow _ h2⟩
    · obtain ⟨q, hq, h3⟩ := List.any_eq_true.mp h2
      simp only [Bool.and_eq_true] at h3
      refine Or.inr ⟨ij_beq h1, q.2.2.1, List.mem_map.mpr ⟨q, hq, ?_⟩⟩
      rw [ij_beq h3.1.1, ij_beq h3.1.2, ij_beq h3.2]
      rfl
  · next idx => exact ij_cow _ (of_decide_eq_true h)
  · next idx => exact ij_c2w _ (of_decide_eq_true h)
theorem ij_iw1 {k : Nat} (hk : k < 12) : Cond.instantiable (ij_cn k) (ij_nf k) ∈ ij_gw := ij_iw _ (List.mem_append_left _ (List.mem_map.mpr ⟨k, List.mem_range.mpr hk, rfl⟩))
theorem ij_iw2 {k : Nat} (hk : k < 12) : Cond.initialized (ij_cn k) ∈ ij_gw := ij_iw _ (List.mem_append_right _ (List.mem_map.mpr ⟨k, List.mem_range.mpr hk, rfl⟩))
theorem ij_ckW_ok {y : Nat} {i : Instr} {a b : Nat} (h : ij_ckW y i a b = true) : ij_okW ij_X0 ij_gw (ij_nm y).cls ((ij_nm y).name = "<init>") (ij_room ij_Z0 y 0 0) i a b := by
  unfold ij_ckW at h
  unfold ij_okW
  cases i <;> first | exact True.intro | skip
  · next idx => exact ij_ccw _ (of_decide_eq_true h)
  · next idx =>
    dsimp only at h ⊢
    intro ha
    simp only [Bool.or_eq_true, Bool.and_eq_true, decide_eq_true_eq, Bool.not_eq_true'] at h
    rcases h with h | ⟨⟨h1, h2⟩, h3⟩
    · rw [ha] at h; cases h
    · exact ⟨ij_acw _ h1, ij_ms_in 2 rfl, ij_ms_in 3 rfl, ij_ms_in 4 rfl, ij_ble h2, ij_ble h3⟩
  · next idx =>
    dsimp only at h
    simp only [Bool.and_eq_true, decide_eq_true_eq] at h
    obtain ⟨⟨h1, h2⟩, h3⟩ := h
    exact ⟨ij_blt h1, ij_beq h2, ij_ccw _ h3, ij_iw1 (ij_blt h1), ij_iw2 (ij_blt h1)⟩
  · next t =>
    cases t <;> first | (exact ij_ms_in 7 rfl) | (exact ij_ms_in 8 rfl) | (exact ij_ms_in 9 rfl) | (exact ij_ms_in 10 rfl) | (exfalso; simp [ij_akind] at h)
  · next idx =>
    dsimp only at h
    simp only [Bool.and_eq_true, decide_eq_true_eq, Bool.or_eq_true, Bool.not_eq_true', beq_iff_eq] at h
    obtain ⟨⟨⟨h1, h2⟩, h3⟩, h4⟩ := h
    refine ⟨ij_blt h2, ij_blt h3, ij_flw _ h1, ?_⟩
    rcases h4 with h4 | ⟨h4, h5⟩
    · exact Or.inl h4
    · rcases Bool.eq_false_or_eq_true ((ij_tx a b).2.2.2) with hf | hf
      · exact Or.inr ⟨hf, h4, h5⟩
      · exact Or.inl hf
theorem ij_ckB_ok {y a b : Nat} (h : ij_ckB y a b = true) : ij_okB ij_G0 ij_Z0 ij_gw y a b ∧ a < 361 := by
  unfold ij_ckB at h
  simp only [Bool.and_eq_true, decide_eq_true_eq, Bool.not_eq_true', beq_eq_false_iff_ne] at h
  obtain ⟨⟨⟨⟨⟨⟨h1, h01, h02⟩, h2⟩, h3⟩, h4⟩, h5⟩, h6⟩ := h
  have ha := ij_blt h1
  have k1 := ij_blt h01
  have k2 := ij_blt h02
  refine ⟨⟨?_, ?_, ij_cdw a ha, ⟨h2, h3, h4⟩, ij_ble h5, ij_ble h6⟩, ha⟩
  · show a < 362
    omega
  · refine ij_mww a (by omega) _ ?_
    have : ij_mk a = 1 ∨ ij_mk a = 2 ∨ ij_mk a = 3 := by omega
    unfold ij_mw
    rcases this with hk | hk | hk <;> (rw [hk]; exact List.mem_cons_self)
theorem ij_ckC_ok {y : Nat} {i : Instr} {a b c : Nat} (h : ij_ckC y i a b c = true) : ij_okC ij_G0 ij_Z0 ij_X0 ij_gw ij_n2 y i a b c := by
  have hmw : ∀ {a : Nat}, a < 361 → ∀ w ∈ ij_mw a, w ∈ ij_gw := fun h => ij_mww _ (by omega)
  have m3 : ∀ {a : Nat}, a < 361 → Nat.beq (ij_mk a) 3 = true → Cond.instanceMethod (ij_nm a) ∈ ij_gw ∧ Cond.selects (ij_nm a).cls (ij_nm a) (ij_nm a) ∈ ij_gw := by
    intro a ha hk
    have hk := ij_beq hk
    refine ⟨hmw ha _ ?_, hmw ha _ ?_⟩ <;> (unfold ij_mw; rw [hk]; simp)
  have m1 : ∀ {a : Nat}, a < 361 → Nat.beq (ij_mk a) 1 = true → Cond.static (ij_nm a) ∈ ij_gw := by
    intro a ha hk
    have hk := ij_beq hk
    refine hmw ha _ ?_
    unfold ij_mw; rw [hk]; simp
  have m2 : ∀ {a : Nat}, a < 361 → Nat.beq (ij_mk a) 2 = true ∨ Nat.beq (ij_mk a) 3 = true → Cond.instanceMethod (ij_nm a) ∈ ij_gw := by
    intro a ha hk
    refine hmw ha _ ?_
    rcases hk with hk | hk <;> (have hk := ij_beq hk; unfold ij_mw; rw [hk]; simp)
  unfold ij_ckC at h
  unfold ij_okC
  cases i <;> first | exact True.intro | skip
  · next idx =>
    dsimp only at h ⊢
    simp only [Bool.or_eq_true, Bool.and_eq_true, decide_eq_true_eq, Bool.not_eq_true'] at h
    obtain ⟨h1, h2⟩ := h
    refine ⟨fun hc => ?_, fun hc => ?_⟩
    · subst hc
      rcases h1 with q | ⟨⟨⟨⟨g1, g2⟩, g3⟩, g4⟩, g5⟩
      · cases q
      · obtain ⟨k1, k2⟩ := ij_ckB_ok g1
        exact ⟨k1, ij_klw _ g2, m2 k2 g3, by simpa using g4, by simpa using g5⟩
    · subst hc
      rcases h2 with q | ⟨⟨⟨⟨g1, g2⟩, g3⟩, g4⟩, g5⟩
      · cases q
      · obtain ⟨k1, k2⟩ := ij_ckB_ok g1
        exact ⟨k1, m2 k2 g3, by simpa using g4, by simpa using g5, "ScaleForge", List.mem_map.mpr ⟨_, g2, rfl⟩⟩
  · next idx =>
    dsimp only at h ⊢
    simp only [Bool.or_eq_true, Bool.and_eq_true, decide_eq_true_eq, Bool.not_eq_true'] at h
    obtain ⟨h1, h2⟩ := h
    refine ⟨fun hc => ?_, fun hc => ?_⟩
    · subst hc
      rcases h1 with q | ⟨⟨g1, g2⟩, g3⟩
      · cases q
      · obtain ⟨k1, k2⟩ := ij_ckB_ok g1
        exact ⟨k1, ij_klw _ g2, m1 k2 g3⟩
    · subst hc
      rcases h2 with q | ⟨⟨g1, g2⟩, g3⟩
      · cases q
      · obtain ⟨k1, k2⟩ := ij_ckB_ok g1
        exact ⟨k1, m1 k2 g3, "ScaleForge", List.mem_map.mpr ⟨_, g2, rfl⟩⟩
  · next idx =>
    dsimp only at h ⊢
    intro hc
    simp only [Bool.or_eq_true, Bool.and_eq_true, decide_eq_true_eq] at h
    rcases h with h | ⟨⟨⟨g1, g2⟩, g3⟩, g4⟩
    · have := ij_blt h; omega
    · obtain ⟨k1, k2⟩ := ij_ckB_ok g1
      obtain ⟨k3, k4⟩ := m3 k2 g3
      exact ⟨k1, ij_klw _ g2, k3, k4, by simpa using g4⟩
noncomputable def ij_dk (y : Nat) : Bool := (ij_tab y).all (fun q => decide (decode (ij_bt y) q.1 = .ok (q.2.1, q.2.2.1)))
noncomputable def ij_yk (y : Nat) : Bool := plainFor (ij_nm y) && (ij_tab y).all (ij_ck y)
def ij_rkk (k : Nat) : Option FieldType → Bool := match k with
  | 0 => fun t => match t with
    | none => true
    | _ => false
  | 1 => fun t => match t with
    | some .int => true
    | _ => false
  | 2 => fun t => match t with
    | some .long => true
    | _ => false
  | 3 => fun t => match t with
    | some .boolean => true
    | _ => false
  | 4 => fun t => match t with
    | some .byte => true
    | _ => false
  | 5 => fun t => match t with
    | some .char => true
    | _ => false
  | _ => fun t => match t with
    | some (.object _) => true
    | _ => false
theorem ij_rkk_ok {k : Nat} {t : Option FieldType} (h : ij_rkk k t = true) : ij_rok t k := by
  unfold ij_rkk at h
  unfold ij_rok
  split at h
  all_goals (dsimp only at h ⊢; split at h <;> first | (cases h; done) | rfl | exact ⟨_, rfl, Or.inl ⟨_, rfl⟩⟩ | (split <;> first | (exfalso; next h0 h1 h2 h3 h4 h5 _ => first | exact h0 rfl | exact h1 rfl | exact h2 rfl | exact h3 rfl | exact h4 rfl | exact h5 rfl) | (exfalso; simp_all; done) | exact ⟨_, rfl, Or.inl ⟨_, rfl⟩⟩))
end
section
/-! The checks, run. -/
set_option maxRecDepth 20000 in
theorem ij_yk0 : (List.range' 0 30).all ij_yk = true := by decide +kernel
set_option maxRecDepth 20000 in
theorem ij_yk30 : (List.range' 30 30).all ij_yk = true := by decide +kernel
set_option maxRecDepth 20000 in
theorem ij_yk60 : (List.range' 60 30).all ij_yk = true := by decide +kernel
set_option maxRecDepth 20000 in
theorem ij_yk90 : (List.range' 90 30).all ij_yk = true := by decide +kernel
set_option maxRecDepth 20000 in
theorem ij_yk120 : (List.range' 120 30).all ij_yk = true := by decide +kernel
set_option maxRecDepth 20000 in
theorem ij_yk150 : (List.range' 150 30).all ij_yk = true := by decide +kernel
set_option maxRecDepth 20000 in
theorem ij_yk180 : (List.range' 180 30).all ij_yk = true := by decide +kernel
set_option maxRecDepth 20000 in
theorem ij_yk210 : (List.range' 210 30).all ij_yk = true := by decide +kernel
set_option maxRecDepth 20000 in
theorem ij_yk240 : (List.range' 240 30).all ij_yk = true := by decide +kernel
set_option maxRecDepth 20000 in
theorem ij_yk270 : (List.range' 270 30).all ij_yk = true := by decide +kernel
set_option maxRecDepth 20000 in
theorem ij_yk300 : (List.range' 300 30).all ij_yk = true := by decide +kernel
set_option maxRecDepth 20000 in
theorem ij_yk330 : (List.range' 330 30).all ij_yk = true := by decide +kernel
set_option maxRecDepth 20000 in
theorem ij_yk360 : (List.range' 360 2).all ij_yk = true := by decide +kernel
set_option maxRecDepth 20000 in
theorem ij_rkc : (List.range' 0 362).all (fun y => ij_rkk (ij_rk y) (ij_rt y)) = true := by decide +kernel
set_option maxRecDepth 20000 in
theorem ij_dk0 : (List.range' 0 19).all ij_dk = true := by decide +kernel
set_option maxRecDepth 20000 in
theorem ij_dk19 : (List.range' 19 28).all ij_dk = true := by decide +kernel
set_option maxRecDepth 20000 in
theorem ij_dk47 : (List.range' 47 25).all ij_dk = true := by decide +kernel
set_option maxRecDepth 20000 in
theorem ij_dk72 : (List.range' 72 24).all ij_dk = true := by decide +kernel
set_option maxRecDepth 20000 in
theorem ij_dk96 : (List.range' 96 12).all ij_dk = true := by decide +kernel
set_option maxRecDepth 20000 in
theorem ij_dk108 : (List.range' 108 9).all ij_dk = true := by decide +kernel
set_option maxRecDepth 20000 in
theorem ij_dk117 : (List.range' 117 8).all ij_dk = true := by decide +kernel
set_option maxRecDepth 20000 in
theorem ij_dk125 : (List.range' 125 4).all ij_dk = true := by decide +kernel
set_option maxRecDepth 20000 in
theorem ij_dk129 : (List.range' 129 2).all ij_dk = true := by decide +kernel
set_option maxRecDepth 20000 in
theorem ij_dk131 : (List.range' 131 1).all ij_dk = true := by decide +kernel
set_option maxRecDepth 20000 in
theorem ij_dk132 : (List.range' 132 30).all ij_dk = true := by decide +kernel
set_option maxRecDepth 20000 in
theorem ij_dk162 : (List.range' 162 30).all ij_dk = true := by decide +kernel
set_option maxRecDepth 20000 in
theorem ij_dk192 : (List.range' 192 30).all ij_dk = true := by decide +kernel
set_option maxRecDepth 20000 in
theorem ij_dk222 : (List.range' 222 29).all ij_dk = true := by decide +kernel
set_option maxRecDepth 20000 in
theorem ij_dk251 : (List.range' 251 20).all ij_dk = true := by decide +kernel
set_option maxRecDepth 20000 in
theorem ij_dk271 : (List.range' 271 16).all ij_dk = true := by decide +kernel
set_option maxRecDepth 20000 in
theorem ij_dk287 : (List.range' 287 7).all ij_dk = true := by decide +kernel
set_option maxRecDepth 20000 in
theorem ij_dk294 : (List.range' 294 8).all ij_dk = true := by decide +kernel
set_option maxRecDepth 20000 in
theorem ij_dk302 : (List.range' 302 8).all ij_dk = true := by decide +kernel
set_option maxRecDepth 20000 in
theorem ij_dk310 : (List.range' 310 7).all ij_dk = true := by decide +kernel
set_option maxRecDepth 20000 in
theorem ij_dk317 : (List.range' 317 14).all ij_dk = true := by decide +kernel
set_option maxRecDepth 20000 in
theorem ij_dk331 : (List.range' 331 12).all ij_dk = true := by decide +kernel
set_option maxRecDepth 20000 in
theorem ij_dk343 : (List.range' 343 4).all ij_dk = true := by decide +kernel
set_option maxRecDepth 20000 in
theorem ij_dk347 : (List.range' 347 14).all ij_dk = true := by decide +kernel
end
section
/-! The law's own rows. -/
set_option maxRecDepth 20000 in
theorem ij_dl0_0 : ((ij_t361_0.drop 0).take 50).all (fun q => decide (decode (ij_bt 361) q.1 = .ok (q.2.1, q.2.2.1))) = true := by decide +kernel
set_option maxRecDepth 20000 in
theorem ij_dl0_1 : ((ij_t361_0.drop 50).take 50).all (fun q => decide (decode (ij_bt 361) q.1 = .ok (q.2.1, q.2.2.1))) = true := by decide +kernel
set_option maxRecDepth 20000 in
theorem ij_dl0_2 : ((ij_t361_0.drop 100).take 50).all (fun q => decide (decode (ij_bt 361) q.1 = .ok (q.2.1, q.2.2.1))) = true := by decide +kernel
set_option maxRecDepth 20000 in
theorem ij_dl1_0 : ((ij_t361_1.drop 0).take 50).all (fun q => decide (decode (ij_bt 361) q.1 = .ok (q.2.1, q.2.2.1))) = true := by decide +kernel
set_option maxRecDepth 20000 in
theorem ij_dl1_1 : ((ij_t361_1.drop 50).take 50).all (fun q => decide (decode (ij_bt 361) q.1 = .ok (q.2.1, q.2.2.1))) = true := by decide +kernel
set_option maxRecDepth 20000 in
theorem ij_dl1_2 : ((ij_t361_1.drop 100).take 50).all (fun q => decide (decode (ij_bt 361) q.1 = .ok (q.2.1, q.2.2.1))) = true := by decide +kernel
set_option maxRecDepth 20000 in
theorem ij_dl2_0 : ((ij_t361_2.drop 0).take 50).all (fun q => decide (decode (ij_bt 361) q.1 = .ok (q.2.1, q.2.2.1))) = true := by decide +kernel
set_option maxRecDepth 20000 in
theorem ij_dl2_1 : ((ij_t361_2.drop 50).take 50).all (fun q => decide (decode (ij_bt 361) q.1 = .ok (q.2.1, q.2.2.1))) = true := by decide +kernel
set_option maxRecDepth 20000 in
theorem ij_dl2_2 : ((ij_t361_2.drop 100).take 50).all (fun q => decide (decode (ij_bt 361) q.1 = .ok (q.2.1, q.2.2.1))) = true := by decide +kernel
set_option maxRecDepth 20000 in
theorem ij_dl3_0 : ((ij_t361_3.drop 0).take 50).all (fun q => decide (decode (ij_bt 361) q.1 = .ok (q.2.1, q.2.2.1))) = true := by decide +kernel
set_option maxRecDepth 20000 in
theorem ij_dl3_1 : ((ij_t361_3.drop 50).take 50).all (fun q => decide (decode (ij_bt 361) q.1 = .ok (q.2.1, q.2.2.1))) = true := by decide +kernel
set_option maxRecDepth 20000 in
theorem ij_dl3_2 : ((ij_t361_3.drop 100).take 50).all (fun q => decide (decode (ij_bt 361) q.1 = .ok (q.2.1, q.2.2.1))) = true := by decide +kernel
set_option maxRecDepth 20000 in
theorem ij_dl4_0 : ((ij_t361_4.drop 0).take 50).all (fun q => decide (decode (ij_bt 361) q.1 = .ok (q.2.1, q.2.2.1))) = true := by decide +kernel
set_option maxRecDepth 20000 in
theorem ij_dl4_1 : ((ij_t361_4.drop 50).take 50).all (fun q => decide (decode (ij_bt 361) q.1 = .ok (q.2.1, q.2.2.1))) = true := by decide +kernel
set_option maxRecDepth 20000 in
theorem ij_dl4_2 : ((ij_t361_4.drop 100).take 50).all (fun q => decide (decode (ij_bt 361) q.1 = .ok (q.2.1, q.2.2.1))) = true := by decide +kernel
set_option maxRecDepth 20000 in
theorem ij_dl5_0 : ((ij_t361_5.drop 0).take 50).all (fun q => decide (decode (ij_bt 361) q.1 = .ok (q.2.1, q.2.2.1))) = true := by decide +kernel
set_option maxRecDepth 20000 in
theorem ij_dl5_1 : ((ij_t361_5.drop 50).take 50).all (fun q => decide (decode (ij_bt 361) q.1 = .ok (q.2.1, q.2.2.1))) = true := by decide +kernel
set_option maxRecDepth 20000 in
theorem ij_dl5_2 : ((ij_t361_5.drop 100).take 50).all (fun q => decide (decode (ij_bt 361) q.1 = .ok (q.2.1, q.2.2.1))) = true := by decide +kernel
set_option maxRecDepth 20000 in
theorem ij_dl6_0 : ((ij_t361_6.drop 0).take 50).all (fun q => decide (decode (ij_bt 361) q.1 = .ok (q.2.1, q.2.2.1))) = true := by decide +kernel
set_option maxRecDepth 20000 in
theorem ij_dl6_1 : ((ij_t361_6.drop 50).take 50).all (fun q => decide (decode (ij_bt 361) q.1 = .ok (q.2.1, q.2.2.1))) = true := by decide +kernel
set_option maxRecDepth 20000 in
theorem ij_dl6_2 : ((ij_t361_6.drop 100).take 50).all (fun q => decide (decode (ij_bt 361) q.1 = .ok (q.2.1, q.2.2.1))) = true := by decide +kernel
set_option maxRecDepth 20000 in
theorem ij_dl7_0 : ((ij_t361_7.drop 0).take 50).all (fun q => decide (decode (ij_bt 361) q.1 = .ok (q.2.1, q.2.2.1))) = true := by decide +kernel
set_option maxRecDepth 20000 in
theorem ij_dl7_1 : ((ij_t361_7.drop 50).take 50).all (fun q => decide (decode (ij_bt 361) q.1 = .ok (q.2.1, q.2.2.1))) = true := by decide +kernel
set_option maxRecDepth 20000 in
theorem ij_dl7_2 : ((ij_t361_7.drop 100).take 50).all (fun q => decide (decode (ij_bt 361) q.1 = .ok (q.2.1, q.2.2.1))) = true := by decide +kernel
set_option maxRecDepth 20000 in
theorem ij_dl8_0 : ((ij_t361_8.drop 0).take 50).all (fun q => decide (decode (ij_bt 361) q.1 = .ok (q.2.1, q.2.2.1))) = true := by decide +kernel
end
section
/-! All that the theorem asks of the tables. -/
theorem ij_yk_all : ∀ y, y < 362 → ij_yk y = true := by
  intro y hy
  have key : ∀ a n, (List.range' a n).all ij_yk = true → a ≤ y → y < a + n → ij_yk y = true := fun a n h h1 h2 => List.all_eq_true.mp h y (List.mem_range'_1.mpr ⟨h1, h2⟩)
  rcases Nat.lt_or_ge y 30 with h0 | h0
  · exact key 0 30 ij_yk0 (by omega) (by omega)
  rcases Nat.lt_or_ge y 60 with h1 | h1
  · exact key 30 30 ij_yk30 (by omega) (by omega)
  rcases Nat.lt_or_ge y 90 with h2 | h2
  · exact key 60 30 ij_yk60 (by omega) (by omega)
  rcases Nat.lt_or_ge y 120 with h3 | h3
  · exact key 90 30 ij_yk90 (by omega) (by omega)
  rcases Nat.lt_or_ge y 150 with h4 | h4
  · exact key 120 30 ij_yk120 (by omega) (by omega)
  rcases Nat.lt_or_ge y 180 with h5 | h5
  · exact key 150 30 ij_yk150 (by omega) (by omega)
  rcases Nat.lt_or_ge y 210 with h6 | h6
  · exact key 180 30 ij_yk180 (by omega) (by omega)
  rcases Nat.lt_or_ge y 240 with h7 | h7
  · exact key 210 30 ij_yk210 (by omega) (by omega)
  rcases Nat.lt_or_ge y 270 with h8 | h8
  · exact key 240 30 ij_yk240 (by omega) (by omega)
  rcases Nat.lt_or_ge y 300 with h9 | h9
  · exact key 270 30 ij_yk270 (by omega) (by omega)
  rcases Nat.lt_or_ge y 330 with h10 | h10
  · exact key 300 30 ij_yk300 (by omega) (by omega)
  rcases Nat.lt_or_ge y 360 with h11 | h11
  · exact key 330 30 ij_yk330 (by omega) (by omega)
  exact key 360 2 ij_yk360 (by omega) (by omega)
theorem ij_dk_all : ∀ y, y < 361 → ij_dk y = true := by
  intro y hy
  have key : ∀ a n, (List.range' a n).all ij_dk = true → a ≤ y → y < a + n → ij_dk y = true := fun a n h h1 h2 => List.all_eq_true.mp h y (List.mem_range'_1.mpr ⟨h1, h2⟩)
  rcases Nat.lt_or_ge y 19 with h0 | h0
  · exact key 0 19 ij_dk0 (by omega) (by omega)
  rcases Nat.lt_or_ge y 47 with h1 | h1
  · exact key 19 28 ij_dk19 (by omega) (by omega)
  rcases Nat.lt_or_ge y 72 with h2 | h2
  · exact key 47 25 ij_dk47 (by omega) (by omega)
  rcases Nat.lt_or_ge y 96 with h3 | h3
  · exact key 72 24 ij_dk72 (by omega) (by omega)
  rcases Nat.lt_or_ge y 108 with h4 | h4
  · exact key 96 12 ij_dk96 (by omega) (by omega)
  rcases Nat.lt_or_ge y 117 with h5 | h5
  · exact key 108 9 ij_dk108 (by omega) (by omega)
  rcases Nat.lt_or_ge y 125 with h6 | h6
  · exact key 117 8 ij_dk117 (by omega) (by omega)
  rcases Nat.lt_or_ge y 129 with h7 | h7
  · exact key 125 4 ij_dk125 (by omega) (by omega)
  rcases Nat.lt_or_ge y 131 with h8 | h8
  · exact key 129 2 ij_dk129 (by omega) (by omega)
  rcases Nat.lt_or_ge y 132 with h9 | h9
  · exact key 131 1 ij_dk131 (by omega) (by omega)
  rcases Nat.lt_or_ge y 162 with h10 | h10
  · exact key 132 30 ij_dk132 (by omega) (by omega)
  rcases Nat.lt_or_ge y 192 with h11 | h11
  · exact key 162 30 ij_dk162 (by omega) (by omega)
  rcases Nat.lt_or_ge y 222 with h12 | h12
  · exact key 192 30 ij_dk192 (by omega) (by omega)
  rcases Nat.lt_or_ge y 251 with h13 | h13
  · exact key 222 29 ij_dk222 (by omega) (by omega)
  rcases Nat.lt_or_ge y 271 with h14 | h14
  · exact key 251 20 ij_dk251 (by omega) (by omega)
  rcases Nat.lt_or_ge y 287 with h15 | h15
  · exact key 271 16 ij_dk271 (by omega) (by omega)
  rcases Nat.lt_or_ge y 294 with h16 | h16
  · exact key 287 7 ij_dk287 (by omega) (by omega)
  rcases Nat.lt_or_ge y 302 with h17 | h17
  · exact key 294 8 ij_dk294 (by omega) (by omega)
  rcases Nat.lt_or_ge y 310 with h18 | h18
  · exact key 302 8 ij_dk302 (by omega) (by omega)
  rcases Nat.lt_or_ge y 317 with h19 | h19
  · exact key 310 7 ij_dk310 (by omega) (by omega)
  rcases Nat.lt_or_ge y 331 with h20 | h20
  · exact key 317 14 ij_dk317 (by omega) (by omega)
  rcases Nat.lt_or_ge y 343 with h21 | h21
  · exact key 331 12 ij_dk331 (by omega) (by omega)
  rcases Nat.lt_or_ge y 347 with h22 | h22
  · exact key 343 4 ij_dk343 (by omega) (by omega)
  exact key 347 14 ij_dk347 (by omega) (by omega)
theorem ij_three {α : Type} {l : List α} {f : α → Bool} (h0 : ((l.drop 0).take 50).all f = true) (h1 : ((l.drop 50).take 50).all f = true) (h2 : ((l.drop 100).take 50).all f = true) (hl : l.length ≤ 150) : l.all f = true := by
  have e : l = (l.drop 0).take 50 ++ ((l.drop 50).take 50 ++ (l.drop 100).take 50) := by
    rw [List.drop_zero]
    have a1 : (l.drop 100).take 50 = l.drop 100 := List.take_of_length_le (by simp; omega)
    have a2 : l.drop 100 = (l.drop 50).drop 50 := by rw [List.drop_drop]
    rw [a1, a2, List.take_append_drop, List.take_append_drop]
  rw [e, List.all_append, List.all_append, h0, h1, h2]
  rfl
theorem ij_dlk0 : ij_t361_0.all (fun q => decide (decode (ij_bt 361) q.1 = .ok (q.2.1, q.2.2.1))) = true := ij_three ij_dl0_0 ij_dl0_1 ij_dl0_2 (by decide +kernel)
theorem ij_dlk1 : ij_t361_1.all (fun q => decide (decode (ij_bt 361) q.1 = .ok (q.2.1, q.2.2.1))) = true := ij_three ij_dl1_0 ij_dl1_1 ij_dl1_2 (by decide +kernel)
theorem ij_dlk2 : ij_t361_2.all (fun q => decide (decode (ij_bt 361) q.1 = .ok (q.2.1, q.2.2.1))) = true := ij_three ij_dl2_0 ij_dl2_1 ij_dl2_2 (by decide +kernel)
theorem ij_dlk3 : ij_t361_3.all (fun q => decide (decode (ij_bt 361) q.1 = .ok (q.2.1, q.2.2.1))) = true := ij_three ij_dl3_0 ij_dl3_1 ij_dl3_2 (by decide +kernel)
theorem ij_dlk4 : ij_t361_4.all (fun q => decide (decode (ij_bt 361) q.1 = .ok (q.2.1, q.2.2.1))) = true := ij_three ij_dl4_0 ij_dl4_1 ij_dl4_2 (by decide +kernel)
theorem ij_dlk5 : ij_t361_5.all (fun q => decide (decode (ij_bt 361) q.1 = .ok (q.2.1, q.2.2.1))) = true := ij_three ij_dl5_0 ij_dl5_1 ij_dl5_2 (by decide +kernel)
theorem ij_dlk6 : ij_t361_6.all (fun q => decide (decode (ij_bt 361) q.1 = .ok (q.2.1, q.2.2.1))) = true := ij_three ij_dl6_0 ij_dl6_1 ij_dl6_2 (by decide +kernel)
theorem ij_dlk7 : ij_t361_7.all (fun q => decide (decode (ij_bt 361) q.1 = .ok (q.2.1, q.2.2.1))) = true := ij_three ij_dl7_0 ij_dl7_1 ij_dl7_2 (by decide +kernel)
theorem ij_dlk8 : ij_t361_8.all (fun q => decide (decode (ij_bt 361) q.1 = .ok (q.2.1, q.2.2.1))) = true := ij_three ij_dl8_0 rfl rfl (by decide +kernel)
theorem ij_dk_law : ij_dk 361 = true := by
  show (ij_tab 361).all _ = true
  rw [show ij_tab 361 = ij_t361 from rfl]
  unfold ij_t361
  simp only [List.all_append, ij_dlk0, ij_dlk1, ij_dlk2, ij_dlk3, ij_dlk4, ij_dlk5, ij_dlk6, ij_dlk7, ij_dlk8, Bool.and_self]
theorem ij_dk_every : ∀ y, y < 362 → ij_dk y = true := by
  intro y hy
  by_cases h : y < 361
  · exact ij_dk_all y h
  · rw [show y = 361 by omega]
    exact ij_dk_law
theorem ij_Ok0 : ij_Ok ij_G0 ij_Z0 ij_X0 ij_ty0 ij_gw ij_n1 ij_n2 ij_sr ij_cl := by
  refine ⟨?_, fun ci h w hw => ij_lw w (List.mem_flatMap.mpr ⟨ci, List.mem_range.mpr h, hw⟩), ?_, ?_, ?_, ?_, ⟨rfl, rfl, rfl⟩, fun w hw => good_of_word (List.mem_filter.mp hw).2, ?_⟩
  · intro ci h
    match ci, h with
    | 0, _ => rfl
    | 1, _ => rfl
    | 2, _ => rfl
    | 3, _ => rfl
    | 4, _ => rfl
    | 5, _ => rfl
    | 6, _ => rfl
    | 7, _ => rfl
    | 8, _ => rfl
    | 9, _ => rfl
    | 10, _ => rfl
    | 11, _ => rfl
    | n + 12, h => omega
  · show ∀ ci, ci < 12 → ∀ k, k < ij_nf ci → parseFieldDescriptor (ij_tx ci k).2.2.1 = some (ij_ty0 ci k)
    decide +kernel
  · show ∀ ci, ci < 12 → ∀ k, k < ij_nf ci → ij_tk (ij_ty0 ci k) = ij_tt ci k
    decide +kernel
  · show ∀ ci, ci < 12 → ∀ k, k < ij_nf ci → ij_tt ci k < 4
    decide +kernel
  · show ∀ ci, ci < 12 → ∀ a, a < ij_nf ci → ∀ b, b < ij_nf ci → a ≠ b → (ij_tx ci a).2.1 ≠ (ij_tx ci b).2.1
    decide +kernel
  · intro y hy
    have h1 := ij_yk_all y hy
    unfold ij_yk at h1
    rw [Bool.and_eq_true] at h1
    have h2 := ij_dk_every y hy
    have h3 := List.all_eq_true.mp ij_rkc y (List.mem_range'_1.mpr ⟨Nat.zero_le _, by simpa using hy⟩)
    refine ⟨h1.1, ij_rkk_ok h3, fun q hq => ?_⟩
    have h4 := List.all_eq_true.mp h1.2 q hq
    have h5 := List.all_eq_true.mp h2 q hq
    unfold ij_ck at h4
    simp only [Bool.and_eq_true] at h4
    obtain ⟨⟨⟨⟨g1, g2⟩, g3⟩, g4⟩, g5⟩ := h4
    refine ⟨of_decide_eq_true h5, ?_, g2, ij_ckR_ok g3, ij_ckW_ok g4, ij_ckC_ok g5⟩
    rcases Bool.or_eq_true_iff.mp g1 with g | g
    · exact Or.inl (ij_beq g)
    · unfold ij_ts at g
      split at g
      · next d lo hi os he => exact Or.inr ⟨d, lo, hi, os, he⟩
      · cases g
end
section
/-! THE CLAIM OUT OF ONE WALK OF THE LAW'S BODY. Your part is whole_start (and what it stands on); all else here is the same for every law, but numbers. -/
def R_law : String := "ScaleForgeLaw"
def lw_P (b : Addr) (xs : List Int32) (args : Array Value) (s : State) : Prop := args = #[.ref b] ∧ s.IntsAt b xs ∧ xs.length ≤ 3072 ∧ (Jvm.Cond.and given_1 narrow_1).before args s = true
def lw_Q (_ : Array Value) (s : State) (o : Outcome) (t : State) : Prop := o = .returned (some (.int 1)) ∧ Framed s o t [] 600000 7302250
def lw_Z (below : List Frame) (a : Array Value) (s : State) : State → Prop := fun t => ∃ o, t.status = .running ∧ Ended t below o ∧ lw_Q a s o t
/-- the law's own end, with 1 on the stack, nothing written that was there before, its room as the claim has it -/
theorem lw_ret {p : Program} {l : Launch} {e : Env} {s : State} {m : MethodId} {below : List Frame} {meth : Method} {c : Code} {b : Nat} (hx : p.tables.exec = Jvm.exec) (hb : c.code = code) (hr : meth.sig.returnType = ret) (hlocks : meth.locks = false) {pc : Nat} {H : Heap} {ls : Array Slot} (hdg : decode code pc = .ok (.ireturn, 1)) : W p l e room_1 s m #[Value.ref b] below meth c H [] 600000 7302250 (lw_Z below #[Value.ref b] s) (F0 m pc ls [.int 1]) := by
  intro T hT X
  obtain ⟨fs, hret, hrun, hended, hW, hframe⟩ := X.leave (v := some (.int 1)) (hlocks := hlocks) (fun h => by rw [hr] at h; cases h)
  have hmeth' : T.vm.method? m = some meth := X.method'
  refine ⟨T.setFrames fs, ?_, .returned (some (.int 1)), hrun, hended, rfl, ⟨_, rfl⟩, hW, hframe⟩
  jvm_step X.here [X.here.top, hx, hb, hdg, hmeth', hr, ret, narrow_b1]
  (try refine ⟨rfl, ?_⟩); (try refine ⟨rfl, ?_⟩)
  first | (intro acts; rw [hret _ acts rfl rfl rfl]) | rw [hret _ _ rfl rfl rfl]
  exact Steps.refl _
/-- what holds at the law's entry: the machine, the code, the tables' words (any of lw_tbl by 'hts w (by decide +kernel)'), the script of L ints xs at the cell b, what the Statement gives of the start (any of its parts by flat_of_before) -/
def lw_At (p : Program) (s : State) (m : MethodId) (meth : Method) (c : Code) (b L : Nat) (xs : Nat → Int32) : Prop :=
  p.tables.exec = Jvm.exec ∧ c.code = code ∧ meth.sig.returnType = ret ∧ c.maxLocals = 4 ∧ s.vm.findClass R_law = some m.cls ∧ (∀ w ∈ lw_tbl, w.before #[Value.ref b] s = true) ∧ va_X b L xs s s.heap ∧ b < s.heap.size ∧ meth.locks = false ∧ (Jvm.Cond.and given_1 narrow_1).before #[Value.ref b] s = true ∧ meth.name = "law"

/-! The start: what the Statement gives there. -/
def ij_sb : List (List Int32) := [[111, 100, 100, 115], [112, 101, 114, 105, 111, 100], [103, 101, 110, 101, 114, 97, 116, 111, 114], [108, 101, 110, 103, 116, 104], [100, 111, 119, 110], [114, 111, 111, 116], [110, 111, 109, 105, 110, 97, 108, 115], [114, 105, 103, 104, 116], [117, 112], [115, 111, 117, 110, 100, 115], [101, 110, 100], [112, 114, 101, 115, 115], [108, 105, 102, 116], [114, 111, 111, 116], [97, 110, 121], [104, 111, 108, 100], [119, 104, 101, 110], [108, 111, 111, 112], [108, 101, 97, 118, 101], [115, 116, 111, 112], [102, 105, 116], [115, 111, 117, 110, 100, 115], [100, 101, 103, 114, 101, 101], [32, 111, 100, 100, 115, 32, 112, 101, 114, 105, 111, 100, 32, 103, 101, 110, 101, 114, 97, 116, 111, 114, 32, 108, 101, 110, 103, 116, 104, 32, 100, 111, 119, 110, 32, 114, 111, 111, 116, 32, 110, 111, 109, 105, 110, 97, 108, 115, 32, 114, 105, 103, 104, 116, 32, 117, 112, 32, 115, 111, 117, 110, 100, 115, 32, 112, 114, 101, 115, 115, 32, 108, 105, 102, 116, 32, 104, 111, 108, 100, 32, 108, 101, 97, 118, 101, 32, 97, 110, 121, 32, 119, 104, 101, 110, 32, 108, 111, 111, 112, 32, 101, 110, 100, 32, 115, 116, 111, 112, 32, 100, 101, 103, 114, 101, 101, 32, 102, 105, 116, 32]]
def ij_sa : List (List Int32) := [[4, 12, 7, 7, 0, 0, 7, 2, 1], [0, 2, 0, 1, 0, 0, 1, 0, 0], [16, 60, 59, 24, 23, 59, 7, 59, 59]]
def ij_stm (i : Nat) : Term := .string (ij_cn (ij_st.getD i (0, 0, "", 0)).1) (ij_st.getD i (0, 0, "", 0)).2.1
def ij_sw (i : Nat) : List Cond := [.exactly (ij_stm i) "java/lang/String", .eq (.field (ij_stm i) "java/lang/String" "coder" "B") (.int 0), .arrayOf (.field (ij_stm i) "java/lang/String" "value" "[B") .byte, .eq (.length (.field (ij_stm i) "java/lang/String" "value" "[B")) (.int (Int32.ofNat (ij_sb.getD i []).length))] ++ (List.range (ij_sb.getD i []).length).map (fun j => .eq (.elem (.field (ij_stm i) "java/lang/String" "value" "[B") (.int (Int32.ofNat j))) (.int ((ij_sb.getD i []).getD j 0)))
def ij_aw (k : Nat) : List Cond := [.arrayOf (.static "ScaleForge" (ij_sn k) "[I") .int, .eq (.length (.static "ScaleForge" (ij_sn k) "[I")) (.int (Int32.ofNat 9))] ++ (List.range 9).map (fun j => .eq (.elem (.static "ScaleForge" (ij_sn k) "[I") (.int (Int32.ofNat j))) (.int ((ij_sa.getD k []).getD j 0)))
def ij_bw : List Cond := [.eq (.static "java/lang/String" "COMPACT_STRINGS" "Z") (.int 1), .isRef (.static "jdk/internal/util/Preconditions" "SIOOBE_FORMATTER" "Ljava/util/function/BiFunction;")]
noncomputable def ij_flat : List Cond := flatC (Jvm.Cond.and given_1 narrow_1)
theorem ij_in_flat {ws : List Cond} {ps : List Nat} (h1 : ws = ps.filterMap (fun i => ij_flat[i]?)) : ∀ w ∈ ws, w ∈ ij_flat := by
  intro w hw
  rw [h1] at hw
  obtain ⟨i, -, hi⟩ := List.mem_filterMap.mp hw
  exact List.mem_of_getElem? hi
theorem ij_in_tbl {ws : List Cond} {ps : List Nat} (h1 : ws = ps.filterMap (fun i => lw_tbl[i]?)) : ∀ w ∈ ws, w ∈ lw_tbl := by
  intro w hw
  rw [h1] at hw
  obtain ⟨i, -, hi⟩ := List.mem_filterMap.mp hw
  exact List.mem_of_getElem? hi
set_option maxRecDepth 20000 in
theorem ij_sww : ∀ w ∈ (List.range 24).flatMap ij_sw, w ∈ ij_flat := ij_in_flat (ps := [81, 82, 83, 84, 85, 86, 87, 88, 89, 90, 91, 92, 93, 94, 95, 96, 97, 98, 100, 101, 102, 103, 104, 105, 106, 107, 108, 109, 110, 111, 112, 115, 116, 117, 118, 119, 120, 121, 122, 123, 124, 128, 129, 130, 131, 132, 133, 134, 135, 140, 141, 142, 143, 144, 145, 146, 147, 153, 154, 155, 156, 157, 158, 159, 160, 161, 162, 163, 164, 171, 172, 173, 174, 175, 176, 177, 178, 179, 187, 188, 189, 190, 191, 192, 201, 202, 203, 204, 205, 206, 207, 208, 209, 210, 220, 221, 222, 223, 224, 225, 226, 237, 238, 239, 240, 241, 242, 243, 244, 245, 257, 258, 259, 260, 261, 262, 263, 264, 277, 278, 279, 280, 281, 282, 283, 284, 298, 299, 300, 301, 302, 303, 304, 319, 320, 321, 322, 323, 324, 325, 326, 342, 343, 344, 345, 346, 347, 348, 349, 366, 367, 368, 369, 370, 371, 372, 373, 391, 392, 393, 394, 395, 396, 397, 398, 399, 418, 419, 420, 421, 422, 423, 424, 425, 445, 446, 447, 448, 449, 450, 451, 472, 473, 474, 475, 476, 477, 478, 479, 480, 481, 503, 504, 505, 506, 507, 508, 509, 510, 511, 512, 535, 536, 537, 538, 539, 540, 541, 542, 543, 544, 545, 546, 547, 548, 549, 550, 551, 552, 553, 554, 555, 556, 557, 558, 559, 560, 561, 562, 563, 564, 565, 566, 567, 568, 569, 570, 571, 572, 573, 574, 575, 576, 577, 578, 579, 580, 581, 582, 583, 584, 585, 586, 587, 588, 589, 590, 591, 592, 593, 594, 595, 596, 597, 598, 599, 600, 601, 602, 603, 604, 605, 606, 607, 608, 609, 610, 611, 612, 613, 614, 615, 616, 617, 618, 619, 620, 621, 622, 623, 624, 625, 626, 627, 628, 629, 630, 631, 632, 633, 634, 635, 636, 637, 638, 639, 640, 641, 642, 643, 644, 645, 646, 647, 648, 649, 650, 651, 652, 653, 654, 655, 656, 657, 658, 659]) (by decide +kernel)
set_option maxRecDepth 20000 in
theorem ij_aww : ∀ w ∈ (List.range 3).flatMap ij_aw, w ∈ ij_flat := ij_in_flat (ps := [5, 6, 7, 8, 9, 10, 11, 12, 13, 14, 15, 22, 23, 24, 25, 26, 27, 28, 29, 30, 31, 32, 34, 35, 36, 37, 38, 39, 40, 41, 42, 43, 44]) (by decide +kernel)
set_option maxRecDepth 20000 in
theorem ij_bww : ∀ w ∈ ij_bw, w ∈ ij_flat := ij_in_flat (ps := [16, 17]) (by decide +kernel)
def ij_zw : List Cond := [.laysStatic "ScaleForge" "WITHOUT" "[I", .laysStatic "ScaleForge" "LEAST" "[I", .laysStatic "ScaleForge" "MOST" "[I", .laysStatic "java/lang/String" "COMPACT_STRINGS" "Z", .laysStatic "jdk/internal/util/Preconditions" "SIOOBE_FORMATTER" "Ljava/util/function/BiFunction;", .arrayOver (.object "ScaleForge$Tray"), .arrayOver (.object "ScaleForge$Scale"), .arrayOver (.object "ScaleForge$Studies"), .initialized "ScaleForge", .initialized "java/lang/String", .initialized "jdk/internal/util/Preconditions", .fieldLinkNest "ScaleForge$Scale" 24 "ScaleForge" "WITHOUT" "[I" "ScaleForge"]
set_option maxRecDepth 20000 in
theorem ij_zww : ∀ w ∈ ij_zw, w ∈ lw_tbl := ij_in_tbl (ps := [226, 749, 759, 672, 688, 148, 462, 463, 119, 134, 136, 225]) (by decide +kernel)
set_option maxRecDepth 20000 in
theorem ij_knw : ∀ w ∈ ij_n2.map (fun q => Cond.methodLinkNest q.1 q.2.1 q.2.2.1 q.2.2.2), w ∈ lw_tbl := ij_in_tbl (ps := ij_knp) (by decide +kernel)
set_option maxRecDepth 20000 in
theorem ij_srw : ∀ w ∈ ij_sr.map (fun q => Cond.stringRef q.1 q.2.1 q.2.2.1), w ∈ lw_tbl := ij_in_tbl (ps := ij_stp) (by decide +kernel)
theorem ij_srk : ∀ q ∈ ij_st, q.2.2.2 < 24 ∧ ij_st.getD q.2.2.2 (0, 0, "", 0) = q := by decide +kernel
theorem ij_lay3 : ∀ k, k < 3 → Cond.laysStatic "ScaleForge" (ij_sn k) "[I" ∈ ij_zw := by decide +kernel
theorem ij_lay4 : Cond.laysStatic "java/lang/String" "COMPACT_STRINGS" "Z" ∈ lw_tbl := ij_zww _ (by decide +kernel)
theorem ij_lay5 : Cond.laysStatic "jdk/internal/util/Preconditions" "SIOOBE_FORMATTER" "Ljava/util/function/BiFunction;" ∈ lw_tbl := ij_zww _ (by decide +kernel)
theorem ij_ini1 : Cond.initialized "ScaleForge" ∈ lw_tbl := ij_zww _ (by decide +kernel)
theorem ij_ini2 : Cond.initialized "java/lang/String" ∈ lw_tbl := ij_zww _ (by decide +kernel)
theorem ij_ini3 : Cond.initialized "jdk/internal/util/Preconditions" ∈ lw_tbl := ij_zww _ (by decide +kernel)
theorem ij_ao1 : Cond.arrayOver (.object "ScaleForge$Tray") ∈ lw_tbl := ij_zww _ (by decide +kernel)
theorem ij_ao2 : Cond.arrayOver (.object "ScaleForge$Scale") ∈ lw_tbl := ij_zww _ (by decide +kernel)
theorem ij_ao3 : Cond.arrayOver (.object "ScaleForge$Studies") ∈ lw_tbl := ij_zww _ (by decide +kernel)
theorem ij_fln : Cond.fieldLinkNest "ScaleForge$Scale" 24 "ScaleForge" "WITHOUT" "[I" "ScaleForge" ∈ lw_tbl := ij_zww _ (by decide +kernel)
theorem ij_bw0 : Cond.eq (.static "java/lang/String" "COMPACT_STRINGS" "Z") (.int 1) ∈ ij_flat := ij_bww _ (by decide +kernel)
theorem ij_bw1 : Cond.isRef (.static "jdk/internal/util/Preconditions" "SIOOBE_FORMATTER" "Ljava/util/function/BiFunction;") ∈ ij_flat := ij_bww _ (by decide +kernel)
/-- the outer cells' contents: the script, three static arrays, the Strings' bytes -/
def ij_xt (L : Nat) (xs : Nat → Int32) : ij_X := fun k => if k = 1000000 then some (100, L, xs) else if 1000001 ≤ k ∧ k < 1000004 then some (100, 9, fun j => (ij_sa.getD (k - 1000001) []).getD j 0) else if 1000060 ≤ k ∧ k < 1000084 then some (102, (ij_sb.getD (k - 1000060) []).length, fun j => (ij_sb.getD (k - 1000060) []).getD j 0) else none
def ij_h0 : ij_H := ([], fun _ _ => 0, fun _ _ => 0, fun _ _ => none)
def ij_xa (b : Nat) (ts : Nat → Nat) (ad : Nat → Nat × Nat) (k : Nat) : Nat := if k = 1000000 then b else if 1000001 ≤ k ∧ k < 1000004 then ts (k - 1000001) else if k < 1000060 then (ad (k - 1000010)).1 else (ad (k - 1000060)).2
/-- the small machine's run of the law is enough -/
def ij_Goal : Prop := ∀ (L : Nat) (xs : Nat → Int32), L ≤ 3072 → ∃ (n : Nat) (h' : ij_H), ij_run ij_G0 (ij_xt L xs) n 361 0 [some (.ref 1000000), none, none, none] [] ij_h0 = some (some (.int 1), h') ∧ h'.1.length ≤ 600000 ∧ ij_sl h' ≤ 7302250
set_option maxHeartbeats 4000000 in
theorem ij_start (hgoal : ij_Goal) {p : Program} {e : Env} {s : State} {m : MethodId} {below : List Frame} {meth : Method} {c : Code} (l : Launch) {b L : Nat} {xs : Nat → Int32} (hL : L ≤ 3072) (C0 : lw_At p s m meth c b L xs) : W p l e room_1 s m #[Value.ref b] below meth c s.heap [] 0 0 (lw_Z below #[Value.ref b] s) (entryFrame m ([Value.ref b] : List Value).toArray 4) := by
  obtain ⟨hx, hb, hr, hml, hown, hts, hX, hbl, hlocks, hgv, hname⟩ := C0
  have hfl : ∀ w ∈ ij_flat, w.before #[Value.ref b] s = true := by
    unfold ij_flat
    exact flat_of_before _ hgv
  have htg : ∀ w ∈ ij_gw, w.before #[Value.ref b] s = true := fun w hw => hts w (List.mem_filter.mp hw).1
  have hA0 : ∀ a : Nat, a < s.heap.size → ¬ (fun q : Nat => s.heap.size ≤ q) a := fun a h => Nat.not_le.mpr h
  -- classes
  have hk0 : ∀ ci : Nat, ∃ q : ClassId × (Nat → Nat), ci < 12 → u_Kn s (ij_cn ci) (ij_tx ci) (ij_nf ci) q.1 q.2 := by
    intro ci
    by_cases h : ci < 12
    · obtain ⟨cC, iS, h1⟩ := u_known (n := ij_nf ci) htg (fun w hw => ij_lw w (List.mem_flatMap.mpr ⟨ci, List.mem_range.mpr h, hw⟩)) (htg _ (ij_iw1 h))
      exact ⟨(cC, iS), fun _ => h1⟩
    · exact ⟨(0, fun _ => 0), fun q => absurd q h⟩
  obtain ⟨dd, hdd⟩ := Classical.axiomOfChoice hk0
  -- array classes
  have hprim : ∀ ty : FieldType, (∀ C, ty ≠ .object C) → Cond.arrayClass ty ∈ ij_gw → ∃ cA, ArrOfT s cA ty ∧ va_RA s cA ty := by
    intro ty hne hw
    obtain ⟨cA, k, comp, h1, h2, h3⟩ := Cond.arrayClass_spec (htg _ hw)
    refine ⟨cA, fun n z => ⟨fun k h => (by cases h), k, h2, comp, h3⟩, ?_⟩
    cases ty <;> first | exact h1 | exact absurd rfl (hne _)
  have hobj : ∀ C : String, Cond.arrayOver (.object C) ∈ lw_tbl → ∃ cA, ArrOfT s cA (.object C) ∧ va_RA s cA (.object C) := by
    intro C hw
    obtain ⟨comp, cA, k, h1, -, h2, h3, h4⟩ := Cond.arrayOver_spec (hts _ hw)
    exact ⟨cA, fun n z => ⟨fun k h => (by cases h), k, h2, comp, h3⟩, k, comp, h2, h3, h1, h4⟩
  obtain ⟨a0, ha0⟩ := hprim .int (fun C h => by cases h) (ij_ms_in 7 rfl)
  obtain ⟨a1, ha1⟩ := hprim .long (fun C h => by cases h) (ij_ms_in 8 rfl)
  obtain ⟨a2, ha2⟩ := hprim .byte (fun C h => by cases h) (ij_ms_in 9 rfl)
  obtain ⟨a3, ha3⟩ := hprim .boolean (fun C h => by cases h) (ij_ms_in 10 rfl)
  obtain ⟨a4, ha4⟩ := hobj "ScaleForge$Tray" ij_ao1
  obtain ⟨a5, ha5⟩ := hobj "ScaleForge$Scale" ij_ao2
  obtain ⟨a6, ha6⟩ := hobj "ScaleForge$Studies" ij_ao3
  obtain ⟨aC, haC⟩ : ∃ aC : Nat → ClassId, aC 0 = a0 ∧ aC 1 = a1 ∧ aC 2 = a2 ∧ aC 3 = a3 ∧ aC 4 = a4 ∧ aC 5 = a5 ∧ aC 6 = a6 :=
    ⟨fun k => match k with
      | 0 => a0
      | 1 => a1
      | 2 => a2
      | 3 => a3
      | 4 => a4
      | 5 => a5
      | _ => a6, rfl, rfl, rfl, rfl, rfl, rfl, rfl⟩
  obtain ⟨rfl, rfl, rfl, rfl, rfl, rfl, rfl⟩ := haC
  have hK : va_K (fun ci => (dd ci).1, fun ci => (dd ci).2) ij_cl (ij_tys aC) s := by
    refine ⟨fun ci q hq => ?_, fun k q hq => ?_⟩
    · have hlt : ci < 12 := (List.getElem?_eq_some_iff.mp hq).1
      have e := ij_Ok0.1 ci hlt
      cases Option.some.inj (hq.symm.trans e)
      exact hdd ci hlt
    · match k, hq with
      | 0, hq => cases hq; exact ha0
      | 1, hq => cases hq; exact ha1
      | 2, hq => cases hq; exact ha2
      | 3, hq => cases hq; exact ha3
      | 4, hq => cases hq; exact ha4
      | 5, hq => cases hq; exact ha5
      | 6, hq => cases hq; exact ha6
      | k + 7, hq => simp [ij_tys] at hq
  -- static arrays
  have hst0 : ∀ k : Nat, ∃ t : Nat, k < 3 → va_Z "ScaleForge" (ij_sn k) "[I" (.ref t) (fun q : Nat => s.heap.size ≤ q) s s.heap ∧ va_T .int t 9 (fun j => .int ((ij_sa.getD k []).getD j 0)) (fun q : Nat => s.heap.size ≤ q) s s.heap := by
    intro k
    by_cases h : k < 3
    · have hw : ∀ w ∈ ij_aw k, w.before #[Value.ref b] s = true := fun w hw => hfl w (ij_aww w (List.mem_flatMap.mpr ⟨k, List.mem_range.mpr h, hw⟩))
      have w0 : (Cond.arrayOf (.static "ScaleForge" (ij_sn k) "[I") .int).before #[Value.ref b] s = true := hw _ (by unfold ij_aw; exact List.mem_append_left _ List.mem_cons_self)
      have w1 : (Cond.eq (.length (.static "ScaleForge" (ij_sn k) "[I")) (.int (Int32.ofNat 9))).before #[Value.ref b] s = true := hw _ (by unfold ij_aw; exact List.mem_append_left _ (List.mem_cons_of_mem _ List.mem_cons_self))
      have w2 : ∀ j, j < 9 → (Cond.eq (.elem (.static "ScaleForge" (ij_sn k) "[I") (.int (Int32.ofNat j))) (.int ((ij_sa.getD k []).getD j 0))).before #[Value.ref b] s = true := fun j hj => hw _ (by unfold ij_aw; exact List.mem_append_right _ (List.mem_map.mpr ⟨j, List.mem_range.mpr hj, rfl⟩))
      have h9 : 9 < 2 ^ 31 := Nat.le_of_ble_eq_true rfl
      obtain ⟨t, ht, hT⟩ := va_Tof (N := 9) (f := fun j => .int ((ij_sa.getD k []).getD j 0)) (A := fun q : Nat => s.heap.size ≤ q) h9 w0 (va_eqt w1) (fun j hj => va_eqt (w2 j hj)) hA0
      have hlay : (Cond.laysStatic "ScaleForge" (ij_sn k) "[I").before #[Value.ref b] s = true := hts _ (ij_zww _ (ij_lay3 k h))
      exact ⟨t, fun _ => ⟨va_Zof hlay (hts _ ij_ini1) ht hA0, hT⟩⟩
    · exact ⟨0, fun q => absurd q h⟩
  obtain ⟨ts, hst⟩ := Classical.axiomOfChoice hst0
  -- Strings
  have hsr0 : ∀ i : Nat, ∃ q : Nat × Nat, i < 24 → (ij_stm i).eval #[Value.ref b] s none [] s = some (.ref q.1) ∧ va_O "java/lang/String" q.1 (fun q : Nat => s.heap.size ≤ q) s s.heap ∧ va_OF "java/lang/String" "coder" "B" (.int 0) q.1 (fun q : Nat => s.heap.size ≤ q) s s.heap ∧ va_OF "java/lang/String" "value" "[B" (.ref q.2) q.1 (fun q : Nat => s.heap.size ≤ q) s s.heap ∧ va_T .byte q.2 (ij_sb.getD i []).length (fun j => .int ((ij_sb.getD i []).getD j 0)) (fun q : Nat => s.heap.size ≤ q) s s.heap := by
    intro i
    by_cases h : i < 24
    · have hw : ∀ w ∈ ij_sw i, w.before #[Value.ref b] s = true := fun w hw => hfl w (ij_sww w (List.mem_flatMap.mpr ⟨i, List.mem_range.mpr h, hw⟩))
      have hlen : ∀ i, i < 24 → (ij_sb.getD i []).length < 2 ^ 31 := by decide +kernel
      have w0 : (Cond.exactly (ij_stm i) "java/lang/String").before #[Value.ref b] s = true := hw _ (by unfold ij_sw; exact List.mem_append_left _ List.mem_cons_self)
      have w1 : (Cond.eq (.field (ij_stm i) "java/lang/String" "coder" "B") (.int 0)).before #[Value.ref b] s = true := hw _ (by unfold ij_sw; exact List.mem_append_left _ (List.mem_cons_of_mem _ List.mem_cons_self))
      have w2 : (Cond.arrayOf (.field (ij_stm i) "java/lang/String" "value" "[B") .byte).before #[Value.ref b] s = true := hw _ (by unfold ij_sw; exact List.mem_append_left _ (List.mem_cons_of_mem _ (List.mem_cons_of_mem _ List.mem_cons_self)))
      have w3 : (Cond.eq (.length (.field (ij_stm i) "java/lang/String" "value" "[B")) (.int (Int32.ofNat (ij_sb.getD i []).length))).before #[Value.ref b] s = true := hw _ (by unfold ij_sw; exact List.mem_append_left _ (List.mem_cons_of_mem _ (List.mem_cons_of_mem _ (List.mem_cons_of_mem _ List.mem_cons_self))))
      have w4 : ∀ j, j < (ij_sb.getD i []).length → (Cond.eq (.elem (.field (ij_stm i) "java/lang/String" "value" "[B") (.int (Int32.ofNat j))) (.int ((ij_sb.getD i []).getD j 0))).before #[Value.ref b] s = true := fun j hj => hw _ (by unfold ij_sw; exact List.mem_append_right _ (List.mem_map.mpr ⟨j, List.mem_range.mpr hj, rfl⟩))
      have h31 := hlen i h
      generalize ij_sb.getD i [] = bb at w3 w4 h31 ⊢
      generalize ij_stm i = tt at w0 w1 w2 w3 w4 ⊢
      obtain ⟨adK, adV, hS, hev⟩ := vk_Sof (N := 1) (tm := fun _ => tt) (len := [bb.length]) (byt := [bb]) (A := fun q : Nat => s.heap.size ≤ q) (args := #[Value.ref b]) (s := s) (fun j hj => by rw [show j = 0 by omega]; exact h31) (fun _ _ => w0) (fun _ _ => w1) (fun _ _ => w2) (fun j hj => by rw [show j = 0 by omega]; exact w3) (fun j hj q hq => by
          obtain rfl : j = 0 := by omega
          exact w4 q hq) (fun i j hi hj hne => by omega) hA0
      obtain ⟨f1, f2, f3, f4⟩ := hS.1 0 (by omega)
      exact ⟨(adK 0, adV 0), fun _ => ⟨hev 0 (by omega), f1, f2, f3, f4⟩⟩
    · exact ⟨(0, 0), fun q => absurd q h⟩
  obtain ⟨ad, hsr⟩ := Classical.axiomOfChoice hsr0
  -- the formatter
  obtain ⟨fm, hfc, hfm⟩ : ∃ fm : Value, fm.category = 1 ∧ va_Z "jdk/internal/util/Preconditions" "SIOOBE_FORMATTER" "Ljava/util/function/BiFunction;" fm (fun q : Nat => s.heap.size ≤ q) s s.heap := by
    rcases va_Zqof (A := fun q : Nat => s.heap.size ≤ q) (hts _ ij_lay5) (hts _ ij_ini3) (hfl _ ij_bw1) hA0 with h | ⟨t, h⟩
    · exact ⟨.null, rfl, h⟩
    · exact ⟨.ref t, rfl, h⟩
  have hcs := va_Zof (A := fun q : Nat => s.heap.size ≤ q) (hts _ ij_lay4) (hts _ ij_ini2) (va_eqt (hfl _ ij_bw0)) hA0
  have hE : ij_Ev (s.heap.size, ij_xa b ts ad, fm) (fun ci => (dd ci).1, fun ci => (dd ci).2) ij_cl aC ij_n1 ij_n2 ij_sr (ij_xt L xs) s := by
    refine ⟨hK, fun q hq => ?_, fun q hq => va_Nw.of rfl (hts _ (ij_knw _ (List.mem_map.mpr ⟨q, hq, rfl⟩))), ⟨va_AO.of (hts _ ij_ao1), va_AO.of (hts _ ij_ao2), va_AO.of (hts _ ij_ao3)⟩, fun k hk => ?_, hcs, hfm, ?_, fun i hi => ?_, fun q hq => ?_⟩
    · cases List.mem_singleton.mp hq
      exact va_Nw.of rfl (hts _ ij_fln)
    · have e : ij_xa b ts ad (1000001 + k) = ts k := by
        unfold ij_xa
        rw [if_neg (by omega), if_pos (by omega), show 1000001 + k - 1000001 = k by omega]
      show va_Z _ _ _ (.ref (ij_xa b ts ad (1000001 + k))) _ _ _
      rw [e]
      exact (hst k hk).1
    · intro k kd n f hxt
      unfold ij_xt at hxt
      show _ ∧ ∃ ty, va_T ty (ij_xa b ts ad k) n _ _ _ _ ∧ _
      split at hxt
      · next h1 =>
        cases hxt
        subst h1
        obtain ⟨scr, q1, q2, q3, q4, q5⟩ := hX
        refine ⟨by omega, .int, ?_, fun _ => rfl, fun h => by cases h⟩
        rw [show ij_xa b ts ad 1000000 = b from if_pos rfl]
        exact ⟨scr, q1, q2, q3, by omega, by rw [q4], q5, Nat.not_le.mpr hbl⟩
      · next h1 =>
        split at hxt
        · next h2 =>
          cases hxt
          refine ⟨by omega, .int, ?_, fun _ => rfl, fun h => by cases h⟩
          rw [show ij_xa b ts ad k = ts (k - 1000001) by unfold ij_xa; rw [if_neg h1, if_pos h2]]
          exact (hst (k - 1000001) (by omega)).2
        · next h2 =>
          split at hxt
          · next h3 =>
            obtain ⟨z1, z2⟩ := Prod.mk.inj (Option.some.inj hxt)
            obtain ⟨z2, z3⟩ := Prod.mk.inj z2
            subst z1
            subst z2
            subst z3
            refine ⟨by omega, .byte, ?_, fun h => (by cases h), fun _ => rfl⟩
            rw [show ij_xa b ts ad k = (ad (k - 1000060)).2 by unfold ij_xa; rw [if_neg h1, if_neg h2, if_neg (by omega)]]
            exact (hsr (k - 1000060) (by omega)).2.2.2.2
          · cases hxt
    · have e1 : ij_xa b ts ad (1000010 + i) = (ad i).1 := by
        unfold ij_xa
        rw [if_neg (by omega), if_neg (by omega), if_pos (by omega), show 1000010 + i - 1000010 = i by omega]
      have e2 : ij_xa b ts ad (1000060 + i) = (ad i).2 := by
        unfold ij_xa
        rw [if_neg (by omega), if_neg (by omega), if_neg (by omega), show 1000060 + i - 1000060 = i by omega]
      obtain ⟨-, f1, f2, f3, -⟩ := hsr i hi
      show va_O _ (ij_xa b ts ad (1000010 + i)) _ _ _ ∧ va_OF _ _ _ _ (ij_xa b ts ad (1000010 + i)) _ _ _ ∧ va_OF _ _ _ (.ref (ij_xa b ts ad (1000060 + i))) (ij_xa b ts ad (1000010 + i)) _ _ _
      rw [e1, e2]
      exact ⟨f1, f2, f3⟩
    · obtain ⟨q0, hq0, rfl⟩ := List.mem_map.mp hq
      obtain ⟨g1, g2⟩ := ij_srk q0 hq0
      have e1 : ij_xa b ts ad (1000010 + q0.2.2.2) = (ad q0.2.2.2).1 := by
        unfold ij_xa
        rw [if_neg (by omega), if_neg (by omega), if_pos (by omega), show 1000010 + q0.2.2.2 - 1000010 = q0.2.2.2 by omega]
      show vk_R (ij_cn q0.1) q0.2.1 q0.2.2.1 (ij_xa b ts ad (1000010 + q0.2.2.2)) s
      rw [e1]
      have h1 := (hsr q0.2.2.2 g1).1
      unfold ij_stm at h1
      rw [g2] at h1
      exact vk_R.of (A := #[Value.ref b]) (hts _ (ij_srw _ (List.mem_map.mpr ⟨_, hq, rfl⟩))) h1
  obtain ⟨n, h', hrun, hc, hs⟩ := hgoal L xs hL
  obtain ⟨-, hW⟩ := ij_walk (l := l) (B := (s.heap.size, ij_xa b ts ad, fm)) (D := (fun ci => (dd ci).1, fun ci => (dd ci).2)) (aC := aC) ij_Ok0 hfc n 361 0 _ [] ij_h0 _ h' (show 361 < 362 by omega) hrun
  rw [lg_entry_eq]
  have hLH := ij_ent_LH (B := (s.heap.size, ij_xa b ts ad, fm)) hfc (nL := 4) (as := [.ref 1000000]) (l0 := [some (.ref 1000000), none, none, none]) rfl
  have ecv : ([Value.ref 1000000] : List Value).map (ij_cv (s.heap.size, ij_xa b ts ad, fm)) = [Value.ref b] := by
    rw [List.map_cons, ij_cv_out _ (by omega) (by omega)]
    show [Value.ref (ij_xa b ts ad 1000000)] = _
    rw [show ij_xa b ts ad 1000000 = b from if_pos rfl]
  rw [ecv] at hLH
  refine hW p e room_1 s m #[Value.ref b] below meth c s.heap [] 0 0 h'.1.length (ij_sl h') _ _ hx hb hml hown htg hname (Nat.le_of_ble_eq_true rfl) (Nat.le_of_ble_eq_true rfl) hE (Nat.le_refl _) (fun k q h => by rw [ij_ws_get] at h; simp [ij_h0] at h) va_S.rf hLH rfl (by simp [ij_h0]) (by simp [ij_h0, ij_sl]) hc hs ?_
  intro i pc ls st H locs hd hri hP hS
  have hri : ij_rI 3 i st = some (some (.int 1)) := hri
  obtain ⟨rfl, rfl⟩ : i = .ireturn ∧ st = [.int 1] := by
    unfold ij_rI at hri
    split at hri
    · split at hri
      · next h0 => cases h0
      · cases hri
    · split at hri
      · next x =>
        split at hri
        · next h0 => cases h0
        · split at hri
          · cases hri; exact ⟨rfl, rfl⟩
          · cases hri
        · next h0 => cases h0
        · next h0 => cases h0
        · cases hri
      · cases hri
    · split at hri
      · next h0 => cases h0
      · cases hri
    · split at hri
      · next h0 => cases h0
      · next h0 => cases h0
      · cases hri
    · cases hri
  refine va_forget hS.2.2 (W.widen hc hs ?_)
  exact lw_ret hx hb hr hlocks hd
end
section
/-! Runs of the small machine, goal first: ij_R: from here the method ends, with an answer and a heap of which Q. -/
theorem ij_mono {G : ij_G} {xt : ij_X} : ∀ (n y pc : Nat) (L : ij_L) (st : List Value) (h : ij_H) (x : Option Value × ij_H), ij_run G xt n y pc L st h = some x → ∀ m, n ≤ m → ij_run G xt m y pc L st h = some x := by
  intro n
  induction n with
  | zero => intro y pc L st h x hr; rw [ij_run] at hr; cases hr
  | succ n ih =>
    intro y pc L st h x hr m hm
    obtain ⟨m, rfl⟩ : ∃ m', m = m' + 1 := ⟨m - 1, by omega⟩
    have hm : n ≤ m := by omega
    rw [ij_run] at hr ⊢
    split at hr
    · cases hr
    · next i len a b c hlk =>
      try rw [hlk]
      try dsimp only
      split at hr
      · next q hq =>
        try rw [hq]
        exact ih _ _ _ _ _ _ hr m hm
      · next hq =>
        try rw [hq]
        try dsimp only
        split at hr
        · next q hq =>
          try rw [hq]
          exact ih _ _ _ _ _ _ hr m hm
        · next hq =>
          try rw [hq]
          try dsimp only
          split at hr
          · next q hq =>
            try rw [hq]
            exact ih _ _ _ _ _ _ hr m hm
          · next hq =>
            try rw [hq]
            try dsimp only
            split at hr
            · next q hq =>
              try rw [hq]
              exact ih _ _ _ _ _ _ hr m hm
            · next hq =>
              try rw [hq]
              try dsimp only
              split at hr
              · next q hq =>
                try rw [hq]
                exact ih _ _ _ _ _ _ hr m hm
              · next hq =>
                try rw [hq]
                try dsimp only
                split at hr
                · next q hq =>
                  try rw [hq]
                  exact ih _ _ _ _ _ _ hr m hm
                · next hq =>
                  try rw [hq]
                  try dsimp only
                  split at hr
                  · next q hq =>
                    try rw [hq]
                    exact hr
                  · next hq =>
                    try rw [hq]
                    try dsimp only
                    split at hr
                    · next q hq =>
                      try rw [hq]
                      try dsimp only
                      split at hr
                      · next l0 hl0 =>
                        try rw [hl0]
                        try dsimp only
                        split at hr
                        · next z hz =>
                          rw [ih _ _ _ _ _ _ hz m hm]
                          exact ih _ _ _ _ _ _ hr m hm
                        · cases hr
                      · cases hr
                    · cases hr
def ij_R (xt : ij_X) (y pc : Nat) (L : ij_L) (st : List Value) (h : ij_H) (Q : Option Value → ij_H → Prop) : Prop := ∃ n r h', ij_run ij_G0 xt n y pc L st h = some (r, h') ∧ Q r h'
section IJ
variable {xt : ij_X} {y pc : Nat} {L : ij_L} {st : List Value} {h : ij_H} {Q : Option Value → ij_H → Prop}
theorem ij_go (k : Nat) (pc' : Nat) (L' : ij_L) (st' : List Value) (h' : ij_H) (e : ∀ n, ij_run ij_G0 xt (n + k) y pc L st h = ij_run ij_G0 xt n y pc' L' st' h') (q : ij_R xt y pc' L' st' h' Q) : ij_R xt y pc L st h Q := by
  obtain ⟨n, r, h1, h2, h3⟩ := q
  exact ⟨n + k, r, h1, by rw [e]; exact h2, h3⟩
theorem ij_br (k : Nat) (c : Prop) {d : Decidable c} (a b : Nat) (L' : ij_L) (st' : List Value) (h' : ij_H) (e : ∀ n, ij_run ij_G0 xt (n + k) y pc L st h = ij_run ij_G0 xt n y (@ite Nat c d a b) L' st' h') (q1 : c → ij_R xt y a L' st' h' Q) (q2 : ¬ c → ij_R xt y b L' st' h' Q) : ij_R xt y pc L st h Q := by
  by_cases hc : c
  · obtain ⟨n, r, h1, h2, h3⟩ := q1 hc
    exact ⟨n + k, r, h1, by rw [e, if_pos hc]; exact h2, h3⟩
  · obtain ⟨n, r, h1, h2, h3⟩ := q2 hc
    exact ⟨n + k, r, h1, by rw [e, if_neg hc]; exact h2, h3⟩
theorem ij_ret (k : Nat) (r : Option Value) (h' : ij_H) (e : ∀ n, ij_run ij_G0 xt (n + k) y pc L st h = some (r, h')) (q : Q r h') : ij_R xt y pc L st h Q := ⟨0 + k, r, h', e 0, q⟩
theorem ij_call (k a : Nat) (l0 : ij_L) (rest : List Value) (pc' : Nat) (L' : ij_L) (h1 : ij_H) (e : ∀ n, ij_run ij_G0 xt (n + k) y pc L st h = (match ij_run ij_G0 xt n a 0 l0 [] h1 with
      | some z => ij_run ij_G0 xt n y pc' L' (z.1.toList ++ rest) z.2
      | none => none)) (q : ij_R xt a 0 l0 [] h1 (fun r h' => ij_R xt y pc' L' (r.toList ++ rest) h' Q)) : ij_R xt y pc L st h Q := by
  obtain ⟨n, r, h2, h3, m, r1, h4, h5, h6⟩ := q
  refine ⟨max n m + k, r1, h4, ?_, h6⟩
  rw [e, ij_mono _ _ _ _ _ _ _ h3 _ (Nat.le_max_left n m)]
  exact ij_mono _ _ _ _ _ _ _ h5 _ (Nat.le_max_right n m)
end IJ
end
section
/-! The layout behind the constructors: 106 cells. -/
def ij_SH : List (Nat × Nat) := [(10, 19), (104, 4), (8, 3), (101, 60), (8, 3), (101, 60), (8, 3), (101, 60), (8, 3), (101, 60), (2, 9), (102, 900), (5, 3), (4, 5), (100, 9), (100, 12), (7, 4), (6, 6), (100, 30), (100, 30), (100, 30), (100, 30), (100, 3), (4, 5), (100, 9), (100, 12), (6, 6), (100, 30), (100, 30), (100, 30), (100, 30), (3, 4), (100, 60), (0, 2), (101, 60), (9, 5), (100, 7), (100, 7), (100, 896), (101, 60), (1, 16), (100, 3), (100, 3), (100, 60), (4, 5), (100, 9), (100, 12), (1, 16), (100, 3), (100, 3), (100, 60), (105, 3), (106, 3), (4, 5), (100, 9), (100, 12), (6, 6), (100, 30), (100, 30), (100, 30), (100, 30), (4, 5), (100, 9), (100, 12), (6, 6), (100, 30), (100, 30), (100, 30), (100, 30), (4, 5), (100, 9), (100, 12), (6, 6), (100, 30), (100, 30), (100, 30), (100, 30), (11, 56), (100, 2392), (100, 4), (100, 4), (101, 240), (102, 900), (102, 900), (100, 3), (100, 24), (100, 24), (100, 60), (100, 24), (103, 60), (100, 7), (100, 8), (100, 8), (100, 7), (103, 3600), (103, 60), (103, 3600), (101, 60), (101, 60), (101, 13), (100, 80), (100, 5), (100, 5), (100, 4), (100, 60), (100, 60)]
def ij_HL (j : Nat) : List (Nat × Nat) := (bif Nat.blt j 53 then (bif Nat.blt j 26 then (bif Nat.blt j 13 then (bif Nat.blt j 6 then (bif Nat.blt j 3 then (bif Nat.blt j 1 then [(3, 1), (4, 10), (5, 12), (6, 16), (7, 23), (8, 26), (9, 31), (10, 33), (11, 35), (12, 39), (13, 40), (14, 44), (15, 47), (16, 51), (17, 52)] else (bif Nat.blt j 2 then [(0, 2), (1, 4), (2, 6), (3, 8)] else [(0, 3)])) else (bif Nat.blt j 4 then [] else (bif Nat.blt j 5 then [(0, 5)] else []))) else (bif Nat.blt j 9 then (bif Nat.blt j 7 then [(0, 7)] else (bif Nat.blt j 8 then [] else [(0, 9)])) else (bif Nat.blt j 11 then (bif Nat.blt j 10 then [] else [(0, 11)]) else (bif Nat.blt j 12 then [] else [(0, 10), (1, 13)])))) else (bif Nat.blt j 19 then (bif Nat.blt j 16 then (bif Nat.blt j 14 then [(0, 14), (1, 15)] else (bif Nat.blt j 15 then [] else [])) else (bif Nat.blt j 17 then [(0, 10), (1, 17), (2, 22)] else (bif Nat.blt j 18 then [(0, 18), (1, 19), (2, 20), (3, 21)] else []))) else (bif Nat.blt j 22 then (bif Nat.blt j 20 then [] else (bif Nat.blt j 21 then [] else [])) else (bif Nat.blt j 24 then (bif Nat.blt j 23 then [] else [(0, 24), (1, 25)]) else (bif Nat.blt j 25 then [] else []))))) else (bif Nat.blt j 39 then (bif Nat.blt j 32 then (bif Nat.blt j 29 then (bif Nat.blt j 27 then [(0, 27), (1, 28), (2, 29), (3, 30)] else (bif Nat.blt j 28 then [] else [])) else (bif Nat.blt j 30 then [] else (bif Nat.blt j 31 then [] else [(0, 32)]))) else (bif Nat.blt j 35 then (bif Nat.blt j 33 then [] else (bif Nat.blt j 34 then [(0, 34)] else [])) else (bif Nat.blt j 37 then (bif Nat.blt j 36 then [(0, 36), (1, 37), (2, 38)] else []) else (bif Nat.blt j 38 then [] else [])))) else (bif Nat.blt j 46 then (bif Nat.blt j 42 then (bif Nat.blt j 40 then [] else (bif Nat.blt j 41 then [(0, 23), (1, 26), (5, 41), (6, 42), (15, 43)] else [])) else (bif Nat.blt j 44 then (bif Nat.blt j 43 then [] else []) else (bif Nat.blt j 45 then [(0, 45), (1, 46)] else []))) else (bif Nat.blt j 49 then (bif Nat.blt j 47 then [] else (bif Nat.blt j 48 then [(0, 44), (1, 26), (5, 48), (6, 49), (15, 50)] else [])) else (bif Nat.blt j 51 then (bif Nat.blt j 50 then [] else []) else (bif Nat.blt j 52 then [(0, 53), (1, 61), (2, 69)] else [(0, 56), (1, 64), (2, 72)])))))) else (bif Nat.blt j 80 then (bif Nat.blt j 66 then (bif Nat.blt j 59 then (bif Nat.blt j 56 then (bif Nat.blt j 54 then [(0, 54), (1, 55)] else (bif Nat.blt j 55 then [] else [])) else (bif Nat.blt j 57 then [(0, 57), (1, 58), (2, 59), (3, 60)] else (bif Nat.blt j 58 then [] else []))) else (bif Nat.blt j 62 then (bif Nat.blt j 60 then [] else (bif Nat.blt j 61 then [] else [(0, 62), (1, 63)])) else (bif Nat.blt j 64 then (bif Nat.blt j 63 then [] else []) else (bif Nat.blt j 65 then [(0, 65), (1, 66), (2, 67), (3, 68)] else [])))) else (bif Nat.blt j 73 then (bif Nat.blt j 69 then (bif Nat.blt j 67 then [] else (bif Nat.blt j 68 then [] else [])) else (bif Nat.blt j 71 then (bif Nat.blt j 70 then [(0, 70), (1, 71)] else []) else (bif Nat.blt j 72 then [] else [(0, 73), (1, 74), (2, 75), (3, 76)]))) else (bif Nat.blt j 76 then (bif Nat.blt j 74 then [] else (bif Nat.blt j 75 then [] else [])) else (bif Nat.blt j 78 then (bif Nat.blt j 77 then [] else [(0, 78), (4, 79), (5, 80), (6, 81), (7, 82), (8, 83), (19, 84), (22, 85), (23, 86), (24, 87), (25, 88), (30, 89), (31, 90), (32, 91), (33, 92), (34, 93), (37, 94), (38, 95), (39, 96), (40, 97), (41, 98), (42, 99), (48, 100), (49, 101), (50, 102), (51, 103), (52, 104), (53, 105)]) else (bif Nat.blt j 79 then [] else []))))) else (bif Nat.blt j 93 then (bif Nat.blt j 86 then (bif Nat.blt j 83 then (bif Nat.blt j 81 then [] else (bif Nat.blt j 82 then [] else [])) else (bif Nat.blt j 84 then [] else (bif Nat.blt j 85 then [] else []))) else (bif Nat.blt j 89 then (bif Nat.blt j 87 then [] else (bif Nat.blt j 88 then [] else [])) else (bif Nat.blt j 91 then (bif Nat.blt j 90 then [] else []) else (bif Nat.blt j 92 then [] else [])))) else (bif Nat.blt j 100 then (bif Nat.blt j 96 then (bif Nat.blt j 94 then [] else (bif Nat.blt j 95 then [] else [])) else (bif Nat.blt j 98 then (bif Nat.blt j 97 then [] else []) else (bif Nat.blt j 99 then [] else []))) else (bif Nat.blt j 103 then (bif Nat.blt j 101 then [] else (bif Nat.blt j 102 then [] else [])) else (bif Nat.blt j 105 then (bif Nat.blt j 104 then [] else []) else (bif Nat.blt j 106 then [] else [])))))))
def ij_HR (j k : Nat) : Option Nat := (ij_HL j).lookup k
-- 0: ScaleForge 19  trays=1 reader=10 scaleText=12 studyText=16 scale=23 studies=26 ring=31 guessing=33 walk=35 row=39 life=40 trialScale=44 trialLife=47 markedScales=51 markedStudies=52
-- 1: Tray[] 4  0=2 1=4 2=6 3=8
-- 2: ScaleForge$Tray 3  numbers=3
-- 3: long[] 60  
-- 4: ScaleForge$Tray 3  numbers=5
-- 5: long[] 60  
-- 6: ScaleForge$Tray 3  numbers=7
-- 7: long[] 60  
-- 8: ScaleForge$Tray 3  numbers=9
-- 9: long[] 60  
-- 10: ScaleForge$Reader 9  tape=11
-- 11: byte[] 900  
-- 12: ScaleForge$ScaleText 3  reader=10 draft=13
-- 13: ScaleForge$Scale 5  parts=14 pressed=15
-- 14: int[] 9  
-- 15: int[] 12  
-- 16: ScaleForge$StudyText 4  reader=10 draft=17 open=22
-- 17: ScaleForge$Studies 6  kinds=18 tests=19 numbers=20 behind=21
-- 18: int[] 30  
-- 19: int[] 30  
-- 20: int[] 30  
-- 21: int[] 30  
-- 22: int[] 3  
-- 23: ScaleForge$Scale 5  parts=24 pressed=25
-- 24: int[] 9  
-- 25: int[] 12  
-- 26: ScaleForge$Studies 6  kinds=27 tests=28 numbers=29 behind=30
-- 27: int[] 30  
-- 28: int[] 30  
-- 29: int[] 30  
-- 30: int[] 30  
-- 31: ScaleForge$Ring 4  tones=32
-- 32: int[] 60  
-- 33: ScaleForge$Guessing 2  reach=34
-- 34: long[] 60  
-- 35: ScaleForge$Walk 5  tones=36 order=37 toGo=38
-- 36: int[] 7  
-- 37: int[] 7  
-- 38: int[] 896  
-- 39: long[] 60  
-- 40: ScaleForge$Life 16  scale=23 studies=26 open=41 rounds=42 log=43
-- 41: int[] 3  
-- 42: int[] 3  
-- 43: int[] 60  
-- 44: ScaleForge$Scale 5  parts=45 pressed=46
-- 45: int[] 9  
-- 46: int[] 12  
-- 47: ScaleForge$Life 16  scale=44 studies=26 open=48 rounds=49 log=50
-- 48: int[] 3  
-- 49: int[] 3  
-- 50: int[] 60  
-- 51: Scale[] 3  0=53 1=61 2=69
-- 52: Studies[] 3  0=56 1=64 2=72
-- 53: ScaleForge$Scale 5  parts=54 pressed=55
-- 54: int[] 9  
-- 55: int[] 12  
-- 56: ScaleForge$Studies 6  kinds=57 tests=58 numbers=59 behind=60
-- 57: int[] 30  
-- 58: int[] 30  
-- 59: int[] 30  
-- 60: int[] 30  
-- 61: ScaleForge$Scale 5  parts=62 pressed=63
-- 62: int[] 9  
-- 63: int[] 12  
-- 64: ScaleForge$Studies 6  kinds=65 tests=66 numbers=67 behind=68
-- 65: int[] 30  
-- 66: int[] 30  
-- 67: int[] 30  
-- 68: int[] 30  
-- 69: ScaleForge$Scale 5  parts=70 pressed=71
-- 70: int[] 9  
-- 71: int[] 12  
-- 72: ScaleForge$Studies 6  kinds=73 tests=74 numbers=75 behind=76
-- 73: int[] 30  
-- 74: int[] 30  
-- 75: int[] 30  
-- 76: int[] 30  
-- 77: ScaleForgeModel 56  at=78 sort=79 trayMany=80 trays=81 tape=82 text=83 opened=84 toneBy=85 stepBy=86 degreeBy=87 sizeBy=88 hasBy=89 goalBy=90 triedBy=91 farBy=92 wayBy=93 isShape=94 isGuess=95 staysBy=96 topBy=97 bottomBy=98 wrongBy=99 loops=100 ran=101 told1=102 heldBy=103 logBy=104 log1=105
-- 78: int[] 2392  
-- 79: int[] 4  
-- 80: int[] 4  
-- 81: long[] 240  
-- 82: byte[] 900  
-- 83: byte[] 900  
-- 84: int[] 3  
-- 85: int[] 24  
-- 86: int[] 24  
-- 87: int[] 60  
-- 88: int[] 24  
-- 89: boolean[] 60  
-- 90: int[] 7  
-- 91: int[] 8  
-- 92: int[] 8  
-- 93: int[] 7  
-- 94: boolean[] 3600  
-- 95: boolean[] 60  
-- 96: boolean[] 3600  
-- 97: long[] 60  
-- 98: long[] 60  
-- 99: long[] 13  
-- 100: int[] 80  
-- 101: int[] 5  
-- 102: int[] 5  
-- 103: int[] 4  
-- 104: int[] 60  
-- 105: int[] 60  
end
section
/-! Conditions over whole numbers: what must hold that a stretch of a method ends well. -/
abbrev iq_V : Type := (Int ⊕ Int) ⊕ (Int64 ⊕ Option Nat)
abbrev iq_I : Type := Nat → Int → Int
abbrev iq_J : Type := Nat → Int → Int64
abbrev iq_LV : Type := List (Option iq_V)
abbrev iq_T : Type := Option iq_V → iq_I → iq_J → Prop
abbrev iq_c (n : Int) : iq_V := .inl (.inl n)
abbrev iq_i (z : Int) : iq_V := .inl (.inr z)
abbrev iq_l (x : Int64) : iq_V := .inr (.inl x)
abbrev iq_r (j : Nat) : iq_V := .inr (.inr (some j))
abbrev iq_n : iq_V := .inr (.inr none)
def iq_iv (v : Int ⊕ Int) : Int := match v with
  | .inl n => n
  | .inr z => z
def iq_lv (v : iq_V) : Value := match v with
  | .inl x => .int (Int32.ofInt (iq_iv x))
  | .inr (.inl x) => .long x
  | .inr (.inr (some j)) => .ref j
  | .inr (.inr none) => .null
def iq_up (g : iq_I) : Nat → Nat → Int32 := fun j k => Int32.ofInt (g j k)
def iq_uq (l : iq_J) : Nat → Nat → Int64 := fun j k => l j k
def iq_hp (g : iq_I) (l : iq_J) : ij_H := (ij_SH, iq_up g, iq_uq l, ij_HR)
def iq_ll (L : iq_LV) : ij_L := L.map (Option.map iq_lv)
def iq_uz {α : Type} (g : Nat → Int → α) (j : Nat) (i : Int) (v : α) : Nat → Int → α := fun a b => if a = j ∧ b = i then v else g a b
def iq_rz {α : Type} (g : Nat → Int → α) (j : Nat) (f : Int → α) : Nat → Int → α := fun a => if a = j then f else g a
def iq_cz {α : Type} (f g : Int → α) (sp dp n : Int) : Int → α := fun k => if dp ≤ k ∧ k < dp + n then f (sp + (k - dp)) else g k
/-! operations that have no name of their own over whole numbers -/
def iq_and (x y : Int) : Int := (Int32.ofInt x &&& Int32.ofInt y).toInt
def iq_or (x y : Int) : Int := (Int32.ofInt x ||| Int32.ofInt y).toInt
def iq_xor (x y : Int) : Int := (Int32.ofInt x ^^^ Int32.ofInt y).toInt
def iq_shl (x y : Int) : Int := (Int32.ofInt x <<< (Int32.ofInt y &&& 31)).toInt
def iq_shr (x y : Int) : Int := (Int32.ofInt x >>> (Int32.ofInt y &&& 31)).toInt
def iq_lc (x y : Int64) : Int := (lg_cmp x y).toInt
def iq_i2l (x : Int) : Int64 := (Int32.ofInt x).toInt64
def iq_l2i (x : Int64) : Int := x.toInt32.toInt
def iq_i2b (x : Int) : Int := (Int32.ofInt x).toInt8.toInt32.toInt
def iq_i2s (x : Int) : Int := (Int32.ofInt x).toInt16.toInt32.toInt
def iq_i2c (x : Int) : Int := ((Int32.ofInt x).toUInt32 % 65536).toInt32.toInt
def iq_lsl (x : Int64) (y : Int) : Int64 := x <<< ((Int32.ofInt y).toInt64 &&& 63)
def iq_lsr (x : Int64) (y : Int) : Int64 := (x.toUInt64 >>> ((Int32.ofInt y).toInt64.toUInt64 &&& Int64.toUInt64 63)).toInt64
/-! the steps -/
def iq_P (N : Nat) (xs : Nat → Int32) (y pc : Nat) (L : iq_LV) (st : List iq_V) (g : iq_I) (l : iq_J) (Q : iq_T) : Prop := ij_R (ij_xt N xs) y pc (iq_ll L) (st.map iq_lv) (iq_hp g l) (fun r h => ∃ r' g' l', r = r'.map iq_lv ∧ h = iq_hp g' l' ∧ Q r' g' l')
def iq_kl (L : iq_LV) (i : Nat) : iq_LV := match i with
  | 0 => L
  | j + 1 => match L[j]? with
    | some (some (.inr (.inl _))) => L.set j none
    | _ => L
def iq_s1 (L : iq_LV) (i : Nat) (v : iq_V) : Option iq_LV := bif Nat.blt i L.length then some ((iq_kl L i).set i (some v)) else none
def iq_s2 (L : iq_LV) (i : Nat) (v : iq_V) : Option iq_LV := bif Nat.blt (i + 1) L.length then some (((iq_kl L i).set (i + 1) none).set i (some v)) else none
def iq_ldi (L : iq_LV) (st : List iq_V) (k : Nat) : Option (iq_LV × List iq_V) := match L[k]? with
  | some (some (.inl x)) => some (L, .inl x :: st)
  | _ => none
def iq_ldl (L : iq_LV) (st : List iq_V) (k : Nat) : Option (iq_LV × List iq_V) := match L[k]? with
  | some (some (.inr (.inl x))) => some (L, .inr (.inl x) :: st)
  | _ => none
def iq_lda (L : iq_LV) (st : List iq_V) (k : Nat) : Option (iq_LV × List iq_V) := match L[k]? with
  | some (some (.inr (.inr (some x)))) => bif Nat.beq x 1999999 then none else some (L, .inr (.inr (some x)) :: st)
  | some (some (.inr (.inr none))) => some (L, .inr (.inr none) :: st)
  | _ => none
def iq_sti (L : iq_LV) (st : List iq_V) (k : Nat) : Option (iq_LV × List iq_V) := match st with
  | .inl x :: r => (iq_s1 L k (.inl x)).map (fun l => (l, r))
  | _ => none
def iq_stl (L : iq_LV) (st : List iq_V) (k : Nat) : Option (iq_LV × List iq_V) := match st with
  | .inr (.inl x) :: r => (iq_s2 L k (iq_l x)).map (fun l => (l, r))
  | _ => none
def iq_sta (L : iq_LV) (st : List iq_V) (k : Nat) : Option (iq_LV × List iq_V) := match st with
  | .inr (.inr (some x)) :: r => bif Nat.beq x 1999999 then none else (iq_s1 L k (iq_r x)).map (fun l => (l, r))
  | .inr (.inr none) :: r => (iq_s1 L k iq_n).map (fun l => (l, r))
  | _ => none
def iq_sL (i : Instr) (L : iq_LV) (st : List iq_V) : Option (iq_LV × List iq_V) := match i with
  | .iconst n => some (L, iq_c n :: st)
  | .bipush n => bif decide (-128 ≤ n) && decide (n ≤ 127) then some (L, iq_c n :: st) else none
  | .sipush n => bif decide (-32768 ≤ n) && decide (n ≤ 32767) then some (L, iq_c n :: st) else none
  | .lconst n => some (L, iq_l (Int64.ofNat (n : Nat)) :: st)
  | .aconst_null => some (L, iq_n :: st)
  | .iload k => iq_ldi L st k
  | .iload_n k => iq_ldi L st k
  | .lload k => iq_ldl L st k
  | .lload_n k => iq_ldl L st k
  | .aload k => iq_lda L st k
  | .aload_n k => iq_lda L st k
  | .istore k => iq_sti L st k
  | .istore_n k => iq_sti L st k
  | .lstore k => iq_stl L st k
  | .lstore_n k => iq_stl L st k
  | .astore k => iq_sta L st k
  | .astore_n k => iq_sta L st k
  | .iinc k n => (match L[k]? with
    | some (some (.inl x)) => (iq_s1 L k (iq_i (iq_iv x + n))).map (fun l => (l, st))
    | _ => none)
  | _ => none
def iq_sA (i : Instr) (st : List iq_V) : Option (List iq_V) := match st with
  | .inl y :: .inl x :: r => (match i with
    | .iadd => some (iq_i (iq_iv x + iq_iv y) :: r)
    | .isub => some (iq_i (iq_iv x - iq_iv y) :: r)
    | .imul => some (iq_i (iq_iv x * iq_iv y) :: r)
    | .iand => some (iq_i (iq_and (iq_iv x) (iq_iv y)) :: r)
    | .ior => some (iq_i (iq_or (iq_iv x) (iq_iv y)) :: r)
    | .ixor => some (iq_i (iq_xor (iq_iv x) (iq_iv y)) :: r)
    | .ishl => some (iq_i (iq_shl (iq_iv x) (iq_iv y)) :: r)
    | .ishr => some (iq_i (iq_shr (iq_iv x) (iq_iv y)) :: r)
    | _ => none)
  | _ => none
/-- divisions of ints -/
def iq_sD (i : Instr) (st : List iq_V) (K : List iq_V → Prop) : Prop := match st with
  | .inl y :: .inl x :: r => (-2147483648 < iq_iv x ∧ iq_iv x ≤ 2147483647 ∧ -2147483648 ≤ iq_iv y ∧ iq_iv y ≤ 2147483647 ∧ ¬ iq_iv y = 0) ∧ (match i with
    | .idiv => K (iq_i ((iq_iv x).tdiv (iq_iv y)) :: r)
    | .irem => K (iq_i ((iq_iv x).tmod (iq_iv y)) :: r)
    | _ => False)
  | _ => False
/-- divisions of longs -/
def iq_sE (i : Instr) (st : List iq_V) (K : List iq_V → Prop) : Prop := match st with
  | .inr (.inl y) :: .inr (.inl x) :: r => ¬ y = 0 ∧ (match i with
    | .ldiv => K (iq_l (x / y) :: r)
    | .lrem => K (iq_l (x - x / y * y) :: r)
    | _ => False)
  | _ => False
def iq_sB (i : Instr) (st : List iq_V) : Option (List iq_V) := match i with
  | .ladd => (match st with
    | .inr (.inl y) :: .inr (.inl x) :: r => some (iq_l (x + y) :: r)
    | _ => none)
  | .lsub => (match st with
    | .inr (.inl y) :: .inr (.inl x) :: r => some (iq_l (x - y) :: r)
    | _ => none)
  | .lmul => (match st with
    | .inr (.inl y) :: .inr (.inl x) :: r => some (iq_l (x * y) :: r)
    | _ => none)
  | .land => (match st with
    | .inr (.inl y) :: .inr (.inl x) :: r => some (iq_l (x &&& y) :: r)
    | _ => none)
  | .lor => (match st with
    | .inr (.inl y) :: .inr (.inl x) :: r => some (iq_l (x ||| y) :: r)
    | _ => none)
  | .lxor => (match st with
    | .inr (.inl y) :: .inr (.inl x) :: r => some (iq_l (x ^^^ y) :: r)
    | _ => none)
  | .lcmp => (match st with
    | .inr (.inl y) :: .inr (.inl x) :: r => some (iq_i (iq_lc x y) :: r)
    | _ => none)
  | .lshl => (match st with
    | .inl y :: .inr (.inl x) :: r => some (iq_l (iq_lsl x (iq_iv y)) :: r)
    | _ => none)
  | .lushr => (match st with
    | .inl y :: .inr (.inl x) :: r => some (iq_l (iq_lsr x (iq_iv y)) :: r)
    | _ => none)
  | .ineg => (match st with
    | .inl x :: r => some (iq_i (-iq_iv x) :: r)
    | _ => none)
  | .i2l => (match st with
    | .inl x :: r => some (iq_l (iq_i2l (iq_iv x)) :: r)
    | _ => none)
  | .i2b => (match st with
    | .inl x :: r => some (iq_i (iq_i2b (iq_iv x)) :: r)
    | _ => none)
  | .i2s => (match st with
    | .inl x :: r => some (iq_i (iq_i2s (iq_iv x)) :: r)
    | _ => none)
  | .i2c => (match st with
    | .inl x :: r => some (iq_i (iq_i2c (iq_iv x)) :: r)
    | _ => none)
  | .l2i => (match st with
    | .inr (.inl x) :: r => some (iq_i (iq_l2i x) :: r)
    | _ => none)
  | .dup => (match st with
    | .inl x :: r => some (.inl x :: .inl x :: r)
    | .inr (.inr (some x)) :: r => some (iq_r x :: iq_r x :: r)
    | _ => none)
  | .dup2 => (match st with
    | .inl y :: .inr (.inr (some x)) :: r => some (.inl y :: iq_r x :: .inl y :: iq_r x :: r)
    | _ => none)
  | .pop => (match st with
    | .inl _ :: r => some r
    | _ => none)
  | _ => none
/-! jumps -/
def iq_cp (k : Jvm.ClassFile.Cond) (x y : Int) (A B : Prop) : Prop := match k with
  | .eq => (x = y → A) ∧ (¬ x = y → B)
  | .ne => (¬ x = y → A) ∧ (x = y → B)
  | .lt => (x < y → A) ∧ (y ≤ x → B)
  | .ge => (y ≤ x → A) ∧ (x < y → B)
  | .gt => (y < x → A) ∧ (x ≤ y → B)
  | .le => (x ≤ y → A) ∧ (y < x → B)
def iq_rb (n : Int) : Bool := decide (-2147483648 ≤ n) && decide (n ≤ 2147483647)
def iq_cd (k : Jvm.ClassFile.Cond) (x y : Int) : Bool := match k with
  | .eq => decide (x = y)
  | .ne => !decide (x = y)
  | .lt => decide (x < y)
  | .ge => decide (y ≤ x)
  | .gt => decide (y < x)
  | .le => decide (x ≤ y)
def iq_br (k : Jvm.ClassFile.Cond) (x y : Int ⊕ Int) (A B : Prop) : Prop := match x, y with
  | .inl m, .inl n => bif iq_rb m && iq_rb n then (bif iq_cd k m n then A else B) else False
  | .inl m, .inr y => bif iq_rb m then (-2147483648 ≤ y ∧ y ≤ 2147483647) ∧ iq_cp k m y A B else False
  | .inr x, .inl n => bif iq_rb n then (-2147483648 ≤ x ∧ x ≤ 2147483647) ∧ iq_cp k x n A B else False
  | .inr x, .inr y => (-2147483648 ≤ x ∧ x ≤ 2147483647 ∧ -2147483648 ≤ y ∧ y ≤ 2147483647) ∧ iq_cp k x y A B
def iq_sw (K : Nat → Prop) (pc : Nat) (x : Int) : Int → List Int → Prop
  | _, [] => True
  | v, o :: os => (x = v → K (ij_tg pc o)) ∧ iq_sw K pc x (v + 1) os
def iq_sJ (i : Instr) (pc : Nat) (st : List iq_V) (K : Nat → List iq_V → Prop) : Prop := match i with
  | .goto o => K (ij_tg pc o) st
  | .ifCond k o => (match st with
    | .inl x :: r => iq_br k x (.inl 0) (K (ij_tg pc o) r) (K (pc + 3) r)
    | _ => False)
  | .if_icmp k o => (match st with
    | .inl y :: .inl x :: r => iq_br k x y (K (ij_tg pc o) r) (K (pc + 3) r)
    | _ => False)
  | .ifnull o => (match st with
    | .inr (.inr (some x)) :: r => bif Nat.beq x 1999999 then False else K (pc + 3) r
    | .inr (.inr none) :: r => K (ij_tg pc o) r
    | _ => False)
  | .ifnonnull o => (match st with
    | .inr (.inr (some x)) :: r => bif Nat.beq x 1999999 then False else K (ij_tg pc o) r
    | .inr (.inr none) :: r => K (pc + 3) r
    | _ => False)
  | .tableswitch d lo hi os => (match st with
    | .inl x :: r => (-2147483648 ≤ iq_iv x ∧ iq_iv x ≤ 2147483647 ∧ hi - lo + 1 = (os.toList.length : Nat)) ∧ iq_sw (fun t => K t r) pc (iq_iv x) lo os.toList ∧ ((iq_iv x < lo ∨ hi < iq_iv x) → K (ij_tg pc d) r)
    | _ => False)
  | _ => False
/-! the heap -/
def iq_ix (i : Int ⊕ Int) (n : Nat) (K : Int → Prop) : Prop := match i with
  | .inl m => bif decide (0 ≤ m) && decide (m < n) then K m else False
  | .inr x => (0 ≤ x ∧ x < n) ∧ K x
def iq_rf (o : Option Nat) (K : iq_V → Prop) : Prop := match o with
  | none => K iq_n
  | some x => bif Nat.blt x 1000000 then K (iq_r x) else False
def iq_hR (N : Nat) (xs : Nat → Int32) (i : Instr) (a b : Nat) (st : List iq_V) (g : iq_I) (l : iq_J) (K : List iq_V → Prop) : Prop := match i with
  | .getfield _ => (match st with
    | .inr (.inr (some j)) :: r => bif Nat.blt j 1000000 then (match ij_SH[j]? with
        | some (kd, n) => bif Nat.beq kd a && Nat.blt a 100 && Nat.blt b n then (match ij_tt a b with
          | 1 => K (iq_l (l j b) :: r)
          | 2 => iq_rf (ij_HR j b) (fun v => K (v :: r))
          | _ => K (iq_i (g j b) :: r)) else False
        | none => False)
      else bif Nat.ble 1000010 j && Nat.blt j 1000034 && Nat.beq a 114 then (match b with
        | 0 => K (iq_r (j + 50) :: r)
        | 1 => K (iq_c 0 :: r)
        | _ => False)
      else False
    | _ => False)
  | .iaload => (match st with
    | .inl i :: .inr (.inr (some j)) :: r => bif Nat.blt j 1000000 then (match ij_SH[j]? with
        | some (100, n) => iq_ix i n (fun m => K (iq_i (g j m) :: r))
        | _ => False)
      else (match ij_xt N xs j with
        | some (100, n, f) => (0 ≤ iq_iv i ∧ iq_iv i < n ∧ iq_iv i ≤ 65536) ∧ K (iq_i (f (iq_iv i).toNat).toInt :: r)
        | _ => False)
    | _ => False)
  | .baload => (match st with
    | .inl i :: .inr (.inr (some j)) :: r => bif Nat.blt j 1000000 then (match ij_SH[j]? with
        | some (102, n) => iq_ix i n (fun m => K (iq_i (g j m) :: r))
        | some (103, n) => iq_ix i n (fun m => K (iq_i (g j m) :: r))
        | _ => False)
      else (match ij_xt N xs j with
        | some (102, n, f) => (0 ≤ iq_iv i ∧ iq_iv i < n ∧ iq_iv i ≤ 65536) ∧ K (iq_i (f (iq_iv i).toNat).toInt :: r)
        | _ => False)
    | _ => False)
  | .laload => (match st with
    | .inl i :: .inr (.inr (some j)) :: r => bif Nat.blt j 1000000 then (match ij_SH[j]? with
        | some (101, n) => iq_ix i n (fun m => K (iq_l (l j m) :: r))
        | _ => False)
      else False
    | _ => False)
  | .aaload => (match st with
    | .inl i :: .inr (.inr (some j)) :: r => bif Nat.blt j 1000000 then (match ij_SH[j]? with
        | some (kd, n) => bif Nat.ble 104 kd && Nat.ble kd 106 then iq_ix i n (fun m => iq_rf (ij_HR j m.toNat) (fun v => K (v :: r))) else False
        | _ => False)
      else False
    | _ => False)
  | .arraylength => (match st with
    | .inr (.inr (some j)) :: r => bif Nat.blt j 1000000 then (match ij_SH[j]? with
        | some (kd, n) => bif Nat.ble 100 kd && Nat.ble kd 106 then K (iq_c n :: r) else False
        | none => False)
      else (match ij_xt N xs j with
        | some (_, n, _) => K (iq_i n :: r)
        | none => False)
    | _ => False)
  | .getstatic _ => (match a with
    | 0 => K (iq_r 1000001 :: st)
    | 1 => K (iq_r 1000002 :: st)
    | 2 => K (iq_r 1000003 :: st)
    | 3 => K (iq_c 1 :: st)
    | 4 => K (iq_r 1999999 :: st)
    | _ => False)
  | .ldc _ => (match a with
    | 0 => K (iq_c b :: st)
    | 1 => bif Nat.blt b 24 then K (iq_r (1000010 + b) :: st) else False
    | _ => False)
  | .ldc_w _ => (match a with
    | 0 => K (iq_c b :: st)
    | _ => False)
  | .ldc2_w _ => K (iq_l (Int64.ofNat b) :: st)
  | _ => False
def iq_bl (x : Int ⊕ Int) (K : Int → Prop) : Prop := match x with
  | .inl m => bif decide (m = 0) || decide (m = 1) then K m else False
  | .inr z => (z = 0 ∨ z = 1) ∧ K z
def iq_hW (N : Nat) (xs : Nat → Int32) (i : Instr) (a b : Nat) (st : List iq_V) (g : iq_I) (l : iq_J) (K : List iq_V → iq_I → iq_J → Prop) : Prop := match i with
  | .putfield _ => (match st with
    | v :: .inr (.inr (some j)) :: r => bif Nat.blt j 1000000 then (match ij_SH[j]? with
        | some (kd, n) => bif Nat.beq kd a && Nat.blt a 100 && Nat.blt b n then (match ij_tt a b, v with
          | 0, .inl x => K r (iq_uz g j b (iq_iv x)) l
          | 1, .inr (.inl x) => K r g (iq_uz l j b x)
          | 3, .inl x => iq_bl x (fun z => K r (iq_uz g j b z) l)
          | _, _ => False) else False
        | none => False)
      else False
    | _ => False)
  | .iastore => (match st with
    | .inl x :: .inl i :: .inr (.inr (some j)) :: r => bif Nat.blt j 1000000 then (match ij_SH[j]? with
        | some (100, n) => iq_ix i n (fun m => K r (iq_uz g j m (iq_iv x)) l)
        | _ => False)
      else False
    | _ => False)
  | .bastore => (match st with
    | .inl x :: .inl i :: .inr (.inr (some j)) :: r => bif Nat.blt j 1000000 then (match ij_SH[j]? with
        | some (102, n) => iq_ix i n (fun m => K r (iq_uz g j m (iq_i2b (iq_iv x))) l)
        | some (103, n) => iq_ix i n (fun m => iq_bl x (fun z => K r (iq_uz g j m z) l))
        | _ => False)
      else False
    | _ => False)
  | .lastore => (match st with
    | .inr (.inl x) :: .inl i :: .inr (.inr (some j)) :: r => bif Nat.blt j 1000000 then (match ij_SH[j]? with
        | some (101, n) => iq_ix i n (fun m => K r g (iq_uz l j m x))
        | _ => False)
      else False
    | _ => False)
  | _ => False
/-- arraycopy -/
def iq_ct (v : iq_V) : Nat := match v with
  | .inr (.inl _) => 2
  | _ => 1
def iq_ac (N : Nat) (xs : Nat → Int32) (st : List iq_V) (g : iq_I) (l : iq_J) (K : List iq_V → iq_I → iq_J → Prop) : Prop := match st with
  | .inl n :: .inl dp :: .inr (.inr (some d)) :: .inl sp :: .inr (.inr (some s)) :: r =>
    bif Nat.blt d 1000000 && Nat.ble (r.map iq_ct).sum 8 then (match ij_SH[d]? with
      | some (100, n1) => bif Nat.blt s 1000000 then (match ij_SH[s]? with
          | some (100, n0) => (0 ≤ iq_iv sp ∧ 0 ≤ iq_iv dp ∧ 0 ≤ iq_iv n ∧ iq_iv sp + iq_iv n ≤ n0 ∧ iq_iv dp + iq_iv n ≤ n1) ∧ K r (iq_rz g d (iq_cz (g s) (g d) (iq_iv sp) (iq_iv dp) (iq_iv n))) l
          | _ => False)
        else (match ij_xt N xs s with
          | some (100, n0, f) => (0 ≤ iq_iv sp ∧ 0 ≤ iq_iv dp ∧ 0 ≤ iq_iv n ∧ iq_iv sp + iq_iv n ≤ n0 ∧ iq_iv dp + iq_iv n ≤ n1 ∧ iq_iv sp ≤ 65536) ∧ K r (iq_rz g d (iq_cz (fun k => (f k.toNat).toInt) (g d) (iq_iv sp) (iq_iv dp) (iq_iv n))) l
          | _ => False)
      | some (101, n1) => bif Nat.blt s 1000000 then (match ij_SH[s]? with
          | some (101, n0) => (0 ≤ iq_iv sp ∧ 0 ≤ iq_iv dp ∧ 0 ≤ iq_iv n ∧ iq_iv sp + iq_iv n ≤ n0 ∧ iq_iv dp + iq_iv n ≤ n1) ∧ K r g (iq_rz l d (iq_cz (l s) (l d) (iq_iv sp) (iq_iv dp) (iq_iv n)))
          | _ => False)
        else False
      | _ => False)
    else False
  | _ => False
/-- ends -/
def iq_sR (rt : Nat) (i : Instr) (st : List iq_V) (Q : Option iq_V → Prop) : Prop := match i with
  | .return_ => (match rt, st with
    | 0, [] => Q none
    | _, _ => False)
  | .ireturn => (match st with
    | [.inl x] => (match rt with
      | 1 => Q (some (iq_i (iq_iv x)))
      | 3 => iq_bl x (fun z => Q (some (iq_i z)))
      | 4 => (-128 ≤ iq_iv x ∧ iq_iv x ≤ 127) ∧ Q (some (iq_i (iq_iv x)))
      | 5 => (0 ≤ iq_iv x ∧ iq_iv x ≤ 65535) ∧ Q (some (iq_i (iq_iv x)))
      | _ => False)
    | _ => False)
  | .lreturn => (match rt, st with
    | 2, [.inr (.inl x)] => Q (some (iq_l x))
    | _, _ => False)
  | .areturn => (match rt, st with
    | 6, [.inr (.inr (some x))] => bif Nat.beq x 1999999 then False else Q (some (iq_r x))
    | 6, [.inr (.inr none)] => Q (some iq_n)
    | _, _ => False)
  | _ => False
/-! calls -/
def iq_en : List iq_V → iq_LV
  | [] => []
  | .inr (.inl x) :: r => some (iq_l x) :: none :: iq_en r
  | .inl x :: r => some (iq_i (iq_iv x)) :: iq_en r
  | v :: r => some v :: iq_en r
def iq_entry (nL : Nat) (as : List iq_V) : iq_LV := iq_en as ++ List.replicate (nL - (iq_en as).length) none
def iq_cl (i : Instr) (n c : Nat) (st : List iq_V) (K : List iq_V → List iq_V → Prop) : Prop := match i with
  | .invokevirtual _ => (match st[n]? with
    | some (.inr (.inr (some j))) => bif ((Nat.ble 10 c && Nat.blt c 22 && Nat.blt j 1000000 && (match ij_SH[j]? with | some (kd, _) => Nat.beq kd (c - 10) | none => false)) || (Nat.beq c 30 && Nat.ble 1000010 j && Nat.blt j 1000034)) && Nat.ble ((st.drop (n + 1)).map iq_ct).sum 8 then K ((st.take (n + 1)).reverse) (st.drop (n + 1)) else False
    | _ => False)
  | .invokestatic _ => bif (Nat.beq c 1 || Nat.beq c 4) && Nat.ble n st.length && Nat.ble ((st.drop n).map iq_ct).sum 8 then K ((st.take n).reverse) (st.drop n) else False
  | .invokespecial _ => (match st[n]? with
    | some (.inr (.inr (some j))) => bif (Nat.beq c 2 || Nat.beq c 3) && Nat.blt j 1000000 && Nat.ble ((st.drop (n + 1)).map iq_ct).sum 8 then K ((st.take (n + 1)).reverse) (st.drop (n + 1)) else False
    | _ => False)
  | _ => False
/-- what a call gives, by its kind -/
def iq_rt (k : Nat) (r : Option iq_V) (K : List iq_V → Prop) (A : List iq_V → Prop) : Prop := match k with
  | 0 => r = none ∧ K []
  | 2 => ∃ x, r = some (iq_l x) ∧ K [iq_l x]
  | 6 => A r.toList
  | _ => ∃ z, r = some (iq_i z) ∧ K [iq_i z]
/-- which rule an instruction follows -/
def iq_kd (i : Instr) : Nat := match i with
  | .iconst _ => 0
  | .bipush _ => 0
  | .sipush _ => 0
  | .lconst _ => 0
  | .aconst_null => 0
  | .iload _ => 0
  | .iload_n _ => 0
  | .lload _ => 0
  | .lload_n _ => 0
  | .aload _ => 0
  | .aload_n _ => 0
  | .istore _ => 0
  | .istore_n _ => 0
  | .lstore _ => 0
  | .lstore_n _ => 0
  | .astore _ => 0
  | .astore_n _ => 0
  | .iinc _ _ => 0
  | .iadd => 1
  | .isub => 1
  | .imul => 1
  | .iand => 1
  | .ior => 1
  | .ixor => 1
  | .ishl => 1
  | .ishr => 1
  | .idiv => 2
  | .irem => 2
  | .ldiv => 4
  | .lrem => 4
  | .goto _ => 5
  | .ifCond _ _ => 5
  | .if_icmp _ _ => 5
  | .ifnull _ => 5
  | .ifnonnull _ => 5
  | .tableswitch _ _ _ _ => 5
  | .getfield _ => 6
  | .iaload => 6
  | .baload => 6
  | .laload => 6
  | .aaload => 6
  | .arraylength => 6
  | .getstatic _ => 6
  | .ldc _ => 6
  | .ldc_w _ => 6
  | .ldc2_w _ => 6
  | .putfield _ => 7
  | .iastore => 7
  | .bastore => 7
  | .lastore => 7
  | .return_ => 8
  | .ireturn => 8
  | .lreturn => 8
  | .areturn => 8
  | .invokevirtual _ => 9
  | .invokestatic _ => 9
  | .invokespecial _ => 9
  | _ => 3
/-- constants that are kept become numbers like any -/
def iq_nv (v : Option iq_V) : Option iq_V := match v with
  | some (.inl x) => some (iq_i (iq_iv x))
  | v => v
abbrev iq_K : Type := Nat → iq_LV → List iq_V → iq_I → iq_J → Prop
def iq_wb (N : Nat) (xs : Nat → Int32) (y : Nat) (Q : iq_T) (K : iq_K) (pc : Nat) (L : iq_LV) (st : List iq_V) (g : iq_I) (l : iq_J) : Prop := match (ij_tab y).lookup pc with
  | none => False
  | some (i, len, a, b, c) => match iq_kd i with
    | 0 => (match iq_sL i L st with
      | some q => K (pc + len) q.1 q.2 g l
      | none => False)
    | 1 => (match iq_sA i st with
      | some q => K (pc + len) L q g l
      | none => False)
    | 2 => iq_sD i st (fun q => K (pc + len) L q g l)
    | 3 => (match iq_sB i st with
      | some q => K (pc + len) L q g l
      | none => False)
    | 4 => iq_sE i st (fun q => K (pc + len) L q g l)
    | 5 => iq_sJ i pc st (fun t q => K t L q g l)
    | 6 => iq_hR N xs i a b st g l (fun q => K (pc + len) L q g l)
    | 7 => iq_hW N xs i a b st g l (fun q g' l' => K (pc + len) L q g' l')
    | 8 => iq_sR (ij_rk y) i st (fun r => Q r g l)
    | _ => bif Nat.beq a 999998 then (match i with
        | .invokestatic _ => iq_ac N xs st g l (fun q g' l' => K (pc + len) L q g' l')
        | _ => False)
      else bif Nat.beq a 999999 then False
      else iq_cl i b c st (fun as r => bif Nat.ble (iq_en as).length (ij_ml a) then iq_P N xs a 0 (iq_entry (ij_ml a) as) [] g l (fun v g' l' => iq_rt (ij_rk a) v (fun q => K (pc + 3) L (q ++ r) g' l') (fun q => iq_P N xs y (pc + 3) (L.map iq_nv) (q ++ r) g' l' Q)) else False)
def iq_w (N : Nat) (xs : Nat → Int32) (cuts : List Nat) (y : Nat) (Q : iq_T) : Nat → iq_K
  | 0 => fun _ _ _ _ _ => False
  | k + 1 => iq_wb N xs y Q (fun pc L st g l => bif cuts.elem pc then iq_P N xs y pc (L.map iq_nv) st g l Q else iq_w N xs cuts y Q k pc L st g l)
end
section
/-! The conditions suffice. -/
theorem iq_bf {b : Bool} {p : Prop} (h : bif b then p else False) : b = true ∧ p := by
  cases b
  · exact h.elim
  · exact ⟨rfl, h⟩
theorem iq_bg {b : Bool} {p : Prop} (h : bif b then False else p) : b = false ∧ p := by
  cases b
  · exact ⟨rfl, h⟩
  · exact h.elim
theorem iq_of0 : Int32.ofInt 0 = 0 := rfl
theorem iq_of1 : Int32.ofInt 1 = 1 := rfl
theorem iq_eqi {x y : Int} (h1 : -2147483648 ≤ x) (h2 : x ≤ 2147483647) (h3 : -2147483648 ≤ y) (h4 : y ≤ 2147483647) : Int32.ofInt x = Int32.ofInt y ↔ x = y := by
  constructor
  · intro h
    have := congrArg Int32.toInt h
    rwa [Int32.toInt_ofInt_of_le (by omega) (by omega), Int32.toInt_ofInt_of_le (by omega) (by omega)] at this
  · intro h; rw [h]
theorem iq_lti {x y : Int} (h1 : -2147483648 ≤ x) (h2 : x ≤ 2147483647) (h3 : -2147483648 ≤ y) (h4 : y ≤ 2147483647) : Int32.ofInt x < Int32.ofInt y ↔ x < y := Int32.ofInt_lt_iff_lt h1 h2 h3 h4
theorem iq_lei {x y : Int} (h1 : -2147483648 ≤ x) (h2 : x ≤ 2147483647) (h3 : -2147483648 ≤ y) (h4 : y ≤ 2147483647) : Int32.ofInt x ≤ Int32.ofInt y ↔ x ≤ y := Int32.ofInt_le_iff_le h1 h2 h3 h4
theorem iq_nat {x : Int} (h1 : 0 ≤ x) (h2 : x ≤ 2147483647) : (Int32.ofInt x).toNatClampNeg = x.toNat := Int32.toNatClampNeg_ofInt_of_le (by omega) (by omega)
theorem iq_ge0 {x : Int} (h1 : 0 ≤ x) (h2 : x ≤ 2147483647) : ¬ Int32.ofInt x < 0 := by
  rw [← iq_of0, iq_lti (by omega) (by omega) (by omega) (by omega)]
  omega
theorem iq_in {x : Int} {n : Nat} (h1 : 0 ≤ x) (h2 : x < n) (h3 : x ≤ 2147483647) : ¬ (Int32.ofInt x < 0 ∨ n ≤ (Int32.ofInt x).toNatClampNeg) := by
  rw [iq_nat h1 h3]
  rintro (h | h)
  · exact iq_ge0 h1 h3 h
  · omega
theorem iq_sz : ∀ q ∈ ij_SH, q.2 ≤ 65536 := by decide +kernel
theorem iq_sh {j kd n : Nat} (h : ij_SH[j]? = some (kd, n)) : n ≤ 65536 := iq_sz _ (List.mem_of_getElem? h)
theorem iq_upu {g : iq_I} {j : Nat} {i v : Int} (h : 0 ≤ i) : ij_ui (iq_up g) j i.toNat (Int32.ofInt v) = iq_up (iq_uz g j i v) := by
  funext a b
  unfold ij_ui iq_up iq_uz upd
  by_cases h1 : a = j
  · subst h1
    by_cases h2 : b = i.toNat
    · have h3 : (b : Int) = i := by omega
      rw [if_pos rfl, if_pos h2, if_pos ⟨rfl, h3⟩]
    · have h3 : ¬ (b : Int) = i := by omega
      simp [h2, h3]
  · simp [h1]
theorem iq_uqu {g : iq_J} {j : Nat} {i : Int} {v : Int64} (h : 0 ≤ i) : ij_ul (iq_uq g) j i.toNat v = iq_uq (iq_uz g j i v) := by
  funext a b
  unfold ij_ul iq_uq iq_uz vp_updL
  by_cases h1 : a = j
  · subst h1
    by_cases h2 : b = i.toNat
    · have h3 : (b : Int) = i := by omega
      rw [if_pos rfl, if_pos h2, if_pos ⟨rfl, h3⟩]
    · have h3 : ¬ (b : Int) = i := by omega
      simp [h2, h3]
  · simp [h1]
theorem iq_map_set {L : iq_LV} {i : Nat} {v : Option iq_V} : iq_ll (L.set i v) = (iq_ll L).set i (v.map iq_lv) := by
  unfold iq_ll
  rw [List.map_set]
theorem iq_get {L : iq_LV} {i : Nat} : (iq_ll L)[i]? = (L[i]?).map (Option.map iq_lv) := by
  unfold iq_ll
  rw [List.getElem?_map]
theorem iq_len {L : iq_LV} : (iq_ll L).length = L.length := by
  unfold iq_ll
  rw [List.length_map]
theorem iq_kl_ok {L : iq_LV} {i : Nat} : ij_kill (iq_ll L) i = iq_ll (iq_kl L i) := by
  unfold ij_kill iq_kl
  cases i with
  | zero => rfl
  | succ j =>
    dsimp only
    rw [iq_get]
    rcases hq : L[j]? with _ | (_ | (x | (x | (_ | x))))
    · rfl
    · rfl
    · rfl
    · simp [iq_lv, iq_map_set]
    · rfl
    · rfl
theorem iq_s1_ok {L L' : iq_LV} {i : Nat} {v : iq_V} (h : iq_s1 L i v = some L') : ij_st1 (iq_ll L) i (iq_lv v) = some (iq_ll L') := by
  unfold iq_s1 at h
  unfold ij_st1
  rcases hb : Nat.blt i L.length with _ | _
  · rw [hb] at h; cases h
  · rw [hb] at h
    rw [iq_len, if_pos (by simpa using hb), iq_kl_ok]
    have := Option.some.inj h
    rw [← this, iq_map_set]; rfl
theorem iq_s2_ok {L L' : iq_LV} {i : Nat} {v : iq_V} (h : iq_s2 L i v = some L') : ij_st2 (iq_ll L) i (iq_lv v) = some (iq_ll L') := by
  unfold iq_s2 at h
  unfold ij_st2
  rcases hb : Nat.blt (i + 1) L.length with _ | _
  · rw [hb] at h; cases h
  · rw [hb] at h
    rw [iq_len, if_pos (by simpa using hb), iq_kl_ok]
    have := Option.some.inj h
    rw [← this, iq_map_set, iq_map_set]; rfl
theorem iq_b8 {n : Int} (h1 : -128 ≤ n) (h2 : n ≤ 127) : (Int8.ofInt n).toInt32 = Int32.ofInt n := Int8.toInt32_ofInt h1 h2
theorem iq_b16 {n : Int} (h1 : -32768 ≤ n) (h2 : n ≤ 32767) : (Int16.ofInt n).toInt32 = Int32.ofInt n := Int16.toInt32_ofInt h1 h2
theorem iq_ldi_ok {L : iq_LV} {st : List iq_V} {k : Nat} {q : iq_LV × List iq_V} (h : iq_ldi L st k = some q) : ij_ldi (iq_ll L) (st.map iq_lv) k = some (iq_ll q.1, q.2.map iq_lv) := by
  unfold iq_ldi at h
  unfold ij_ldi
  split at h
  · next x hx =>
    cases h
    rw [iq_get, hx]; rfl
  · cases h
theorem iq_ldl_ok {L : iq_LV} {st : List iq_V} {k : Nat} {q : iq_LV × List iq_V} (h : iq_ldl L st k = some q) : ij_ldl (iq_ll L) (st.map iq_lv) k = some (iq_ll q.1, q.2.map iq_lv) := by
  unfold iq_ldl at h
  unfold ij_ldl
  split at h
  · next x hx =>
    cases h
    rw [iq_get, hx]; rfl
  · cases h
theorem iq_lda_ok {L : iq_LV} {st : List iq_V} {k : Nat} {q : iq_LV × List iq_V} (h : iq_lda L st k = some q) : ij_lda (iq_ll L) (st.map iq_lv) k = some (iq_ll q.1, q.2.map iq_lv) := by
  unfold iq_lda at h
  unfold ij_lda
  split at h
  · next x hx =>
    rcases hb : Nat.beq x 1999999 with _ | _
    · rw [hb] at h
      cases h
      have hne : ¬ x = 1999999 := fun e => by rw [e] at hb; cases hb
      rw [iq_get, hx]
      simp [iq_lv, hne]
    · rw [hb] at h; cases h
  · next hx =>
    cases h
    rw [iq_get, hx]; rfl
  · cases h
theorem iq_sti_ok {L : iq_LV} {st : List iq_V} {k : Nat} {q : iq_LV × List iq_V} (h : iq_sti L st k = some q) : ij_sti (iq_ll L) (st.map iq_lv) k = some (iq_ll q.1, q.2.map iq_lv) := by
  unfold iq_sti at h
  split at h
  · next x r =>
    obtain ⟨l, h1, rfl⟩ := Option.map_eq_some_iff.mp h
    have h2 := iq_s1_ok h1
    show (ij_st1 (iq_ll L) k (iq_lv (.inl x))).map _ = _
    rw [h2]; rfl
  · cases h
theorem iq_stl_ok {L : iq_LV} {st : List iq_V} {k : Nat} {q : iq_LV × List iq_V} (h : iq_stl L st k = some q) : ij_stl (iq_ll L) (st.map iq_lv) k = some (iq_ll q.1, q.2.map iq_lv) := by
  unfold iq_stl at h
  split at h
  · next x r =>
    obtain ⟨l, h1, rfl⟩ := Option.map_eq_some_iff.mp h
    have h2 := iq_s2_ok h1
    show (ij_st2 (iq_ll L) k (iq_lv (iq_l x))).map _ = _
    rw [h2]; rfl
  · cases h
theorem iq_sta_ok {L : iq_LV} {st : List iq_V} {k : Nat} {q : iq_LV × List iq_V} (h : iq_sta L st k = some q) : ij_sta (iq_ll L) (st.map iq_lv) k = some (iq_ll q.1, q.2.map iq_lv) := by
  unfold iq_sta at h
  split at h
  · next x r =>
    rcases hb : Nat.beq x 1999999 with _ | _
    · rw [hb] at h
      have hne : ¬ x = 1999999 := fun e => by rw [e] at hb; cases hb
      obtain ⟨l, h1, rfl⟩ := Option.map_eq_some_iff.mp h
      have h2 := iq_s1_ok h1
      show (if x = 1999999 then none else (ij_st1 (iq_ll L) k (iq_lv (iq_r x))).map _) = _
      rw [if_neg hne, h2]; rfl
    · rw [hb] at h; cases h
  · next r =>
    obtain ⟨l, h1, rfl⟩ := Option.map_eq_some_iff.mp h
    have h2 := iq_s1_ok h1
    show (ij_st1 (iq_ll L) k (iq_lv iq_n)).map _ = _
    rw [h2]; rfl
  · cases h
theorem iq_sL_ok {i : Instr} {L : iq_LV} {st : List iq_V} {q : iq_LV × List iq_V} (h : iq_sL i L st = some q) : ij_sL i (iq_ll L) (st.map iq_lv) = some (iq_ll q.1, q.2.map iq_lv) := by
  unfold iq_sL at h
  split at h
  · cases h; rfl
  · next n =>
    rcases hb : (decide (-128 ≤ n) && decide (n ≤ 127)) with _ | _
    · rw [hb] at h; cases h
    · rw [hb] at h
      cases h
      simp only [Bool.and_eq_true, decide_eq_true_eq] at hb
      show some (_, Value.int _ :: _) = _
      rw [iq_b8 hb.1 hb.2]; rfl
  · next n =>
    rcases hb : (decide (-32768 ≤ n) && decide (n ≤ 32767)) with _ | _
    · rw [hb] at h; cases h
    · rw [hb] at h
      cases h
      simp only [Bool.and_eq_true, decide_eq_true_eq] at hb
      show some (_, Value.int _ :: _) = _
      rw [iq_b16 hb.1 hb.2]; rfl
  · cases h; rfl
  · cases h; rfl
  · exact iq_ldi_ok h
  · exact iq_ldi_ok h
  · exact iq_ldl_ok h
  · exact iq_ldl_ok h
  · exact iq_lda_ok h
  · exact iq_lda_ok h
  · exact iq_sti_ok h
  · exact iq_sti_ok h
  · exact iq_stl_ok h
  · exact iq_stl_ok h
  · exact iq_sta_ok h
  · exact iq_sta_ok h
  · next k n =>
    split at h
    · next x hx =>
      obtain ⟨l, h1, rfl⟩ := Option.map_eq_some_iff.mp h
      have h2 := iq_s1_ok h1
      unfold ij_sL
      dsimp only
      rw [iq_get, hx]
      have h3 : iq_lv (iq_i (iq_iv x + n)) = Value.int (Int32.ofInt (iq_iv x) + Int32.ofInt n) := by
        show Value.int (Int32.ofInt (iq_iv x + n)) = _
        rw [Int32.ofInt_add]
      rw [h3] at h2
      show (ij_st1 (iq_ll L) k (Value.int (Int32.ofInt (iq_iv x) + Int32.ofInt n))).map _ = _
      rw [h2]; rfl
    · cases h
  · cases h
theorem iq_tof (x : Int32) : Int32.ofInt x.toInt = x := Int32.ofInt_toInt x
theorem iq_sA_ok {i : Instr} {st q : List iq_V} (h : iq_sA i st = some q) : ij_sA i (st.map iq_lv) = some (q.map iq_lv) := by
  unfold iq_sA at h
  split at h
  · next y x r =>
    split at h
    all_goals first
      | cases h; simp [ij_sA, iq_lv, iq_iv, iq_and, iq_or, iq_xor, iq_shl, iq_shr]; done
      | cases h
  · cases h
theorem iq_sB_ok {i : Instr} {st q : List iq_V} (h : iq_sB i st = some q) : ij_sB i (st.map iq_lv) = some (q.map iq_lv) := by
  unfold iq_sB at h
  split at h
  all_goals first
    | (split at h
       all_goals first
         | (cases h; simp only [ij_sB, List.map, iq_lv, iq_iv, iq_lc, iq_lsl, iq_lsr, iq_i2l, iq_l2i, iq_i2b, iq_i2s, iq_i2c, iq_tof, Int32.ofInt_neg]; done)
         | cases h)
    | cases h
end
section
/-! The conditions suffice, the other half. -/
section IQE
variable {xt : ij_X} {y pc len a b c : Nat} {i : Instr} {L : ij_L} {st : List Value} {h : ij_H} {Q : Option Value → ij_H → Prop}
theorem iq_e0 {q : ij_L × List Value} (hk : (ij_tab y).lookup pc = some (i, len, a, b, c)) (h0 : ij_sL i L st = some q) (k : ij_R xt y (pc + len) q.1 q.2 h Q) : ij_R xt y pc L st h Q := by
  obtain ⟨n, r, h', e, hq⟩ := k
  refine ⟨n + 1, r, h', ?_, hq⟩
  rw [ij_run, show ij_G0.1 y = ij_tab y from rfl, hk]
  dsimp only
  rw [h0]
  exact e
theorem iq_e1 {q : List Value} (hk : (ij_tab y).lookup pc = some (i, len, a, b, c)) (h0 : ij_sL i L st = none) (h1 : ij_sA i st = some q) (k : ij_R xt y (pc + len) L q h Q) : ij_R xt y pc L st h Q := by
  obtain ⟨n, r, h', e, hq⟩ := k
  refine ⟨n + 1, r, h', ?_, hq⟩
  rw [ij_run, show ij_G0.1 y = ij_tab y from rfl, hk]
  dsimp only
  rw [h0]; dsimp only
  rw [h1]
  exact e
theorem iq_e2 {q : Nat × List Value} (hk : (ij_tab y).lookup pc = some (i, len, a, b, c)) (h0 : ij_sL i L st = none) (h1 : ij_sA i st = none) (h2 : ij_bI i pc st = some q) (k : ij_R xt y q.1 L q.2 h Q) : ij_R xt y pc L st h Q := by
  obtain ⟨n, r, h', e, hq⟩ := k
  refine ⟨n + 1, r, h', ?_, hq⟩
  rw [ij_run, show ij_G0.1 y = ij_tab y from rfl, hk]
  dsimp only
  rw [h0]; dsimp only
  rw [h1]; dsimp only
  rw [h2]
  exact e
theorem iq_e3 {q : List Value} (hk : (ij_tab y).lookup pc = some (i, len, a, b, c)) (h0 : ij_sL i L st = none) (h1 : ij_sA i st = none) (h2 : ij_bI i pc st = none) (h3 : ij_hR ij_tt xt i a b st h = some q) (k : ij_R xt y (pc + len) L q h Q) : ij_R xt y pc L st h Q := by
  obtain ⟨n, r, h', e, hq⟩ := k
  refine ⟨n + 1, r, h', ?_, hq⟩
  rw [ij_run, show ij_G0.1 y = ij_tab y from rfl, hk]
  dsimp only
  rw [h0]; dsimp only
  rw [h1]; dsimp only
  rw [h2]; dsimp only
  rw [h3]
  exact e
theorem iq_e4 {q : List Value} (hk : (ij_tab y).lookup pc = some (i, len, a, b, c)) (h0 : ij_sL i L st = none) (h1 : ij_sA i st = none) (h2 : ij_bI i pc st = none) (h3 : ij_hR ij_tt xt i a b st h = none) (h4 : ij_sB i st = some q) (k : ij_R xt y (pc + len) L q h Q) : ij_R xt y pc L st h Q := by
  obtain ⟨n, r, h', e, hq⟩ := k
  refine ⟨n + 1, r, h', ?_, hq⟩
  rw [ij_run, show ij_G0.1 y = ij_tab y from rfl, hk]
  dsimp only
  rw [h0]; dsimp only
  rw [h1]; dsimp only
  rw [h2]; dsimp only
  rw [h3]; dsimp only
  rw [h4]
  exact e
theorem iq_e5 {q : List Value × ij_H} (hk : (ij_tab y).lookup pc = some (i, len, a, b, c)) (h0 : ij_sL i L st = none) (h1 : ij_sA i st = none) (h2 : ij_bI i pc st = none) (h3 : ij_hR ij_tt xt i a b st h = none) (h4 : ij_sB i st = none) (h5 : ij_hW ij_tt xt i a b st h = some q) (k : ij_R xt y (pc + len) L q.1 q.2 Q) : ij_R xt y pc L st h Q := by
  obtain ⟨n, r, h', e, hq⟩ := k
  refine ⟨n + 1, r, h', ?_, hq⟩
  rw [ij_run, show ij_G0.1 y = ij_tab y from rfl, hk]
  dsimp only
  rw [h0]; dsimp only
  rw [h1]; dsimp only
  rw [h2]; dsimp only
  rw [h3]; dsimp only
  rw [h4]; dsimp only
  rw [h5]
  exact e
theorem iq_e6 {q : Option Value} (hk : (ij_tab y).lookup pc = some (i, len, a, b, c)) (h0 : ij_sL i L st = none) (h1 : ij_sA i st = none) (h2 : ij_bI i pc st = none) (h3 : ij_hR ij_tt xt i a b st h = none) (h4 : ij_sB i st = none) (h5 : ij_hW ij_tt xt i a b st h = none) (h6 : ij_rI (ij_rk y) i st = some q) (k : Q q h) : ij_R xt y pc L st h Q := by
  refine ⟨0 + 1, q, h, ?_, k⟩
  rw [ij_run, show ij_G0.1 y = ij_tab y from rfl, hk]
  dsimp only
  rw [h0]; dsimp only
  rw [h1]; dsimp only
  rw [h2]; dsimp only
  rw [h3]; dsimp only
  rw [h4]; dsimp only
  rw [h5]; dsimp only
  rw [h6]
theorem iq_e7 {q : List Value × List Value} {l0 : ij_L} (hk : (ij_tab y).lookup pc = some (i, len, a, b, c)) (h0 : ij_sL i L st = none) (h1 : ij_sA i st = none) (h2 : ij_bI i pc st = none) (h3 : ij_hR ij_tt xt i a b st h = none) (h4 : ij_sB i st = none) (h5 : ij_hW ij_tt xt i a b st h = none) (h6 : ij_rI (ij_rk y) i st = none) (h7 : ij_cI i b c st h = some q) (h8 : ij_entry (ij_ml a) q.1 = some l0) (k : ij_R xt a 0 l0 [] h (fun r h' => ij_R xt y (pc + 3) L (r.toList ++ q.2) h' Q)) : ij_R xt y pc L st h Q := by
  refine ij_call 1 a l0 q.2 (pc + 3) L h ?_ k
  intro n
  rw [ij_run, show ij_G0.1 y = ij_tab y from rfl, hk]
  dsimp only
  rw [h0]; dsimp only
  rw [h1]; dsimp only
  rw [h2]; dsimp only
  rw [h3]; dsimp only
  rw [h4]; dsimp only
  rw [h5]; dsimp only
  rw [h6]; dsimp only
  rw [h7]; dsimp only
  rw [h8]; rfl
end IQE
theorem iq_cc {k : Jvm.ClassFile.Cond} {x y : Int} {A B : Prop} (hx : -2147483648 ≤ x ∧ x ≤ 2147483647) (hy : -2147483648 ≤ y ∧ y ≤ 2147483647) (h : iq_cp k x y A B) (pc : Nat) (o : Int) (r : List Value) : (ij_bI (.if_icmp k o) pc (.int (Int32.ofInt y) :: .int (Int32.ofInt x) :: r) = some (ij_tg pc o, r) ∧ A) ∨ (ij_bI (.if_icmp k o) pc (.int (Int32.ofInt y) :: .int (Int32.ofInt x) :: r) = some (pc + 3, r) ∧ B) := by
  have e1 := iq_eqi hx.1 hx.2 hy.1 hy.2
  have e2 := iq_lti hx.1 hx.2 hy.1 hy.2
  have e3 := iq_lti hy.1 hy.2 hx.1 hx.2
  have e4 := iq_lei hx.1 hx.2 hy.1 hy.2
  have e5 := iq_lei hy.1 hy.2 hx.1 hx.2
  unfold iq_cp at h
  unfold ij_bI
  cases k <;> dsimp only at h ⊢
  · by_cases c : x = y
    · exact .inl ⟨by rw [if_pos (e1.mpr c)], h.1 c⟩
    · exact .inr ⟨by rw [if_neg (fun t => c (e1.mp t))], h.2 c⟩
  · by_cases c : x = y
    · exact .inr ⟨by rw [if_pos (e1.mpr c)], h.2 c⟩
    · exact .inl ⟨by rw [if_neg (fun t => c (e1.mp t))], h.1 c⟩
  · by_cases c : x < y
    · exact .inl ⟨by rw [if_pos (e2.mpr c)], h.1 c⟩
    · exact .inr ⟨by rw [if_neg (fun t => c (e2.mp t))], h.2 (by omega)⟩
  · by_cases c : y ≤ x
    · exact .inl ⟨by rw [if_pos (e5.mpr c)], h.1 c⟩
    · exact .inr ⟨by rw [if_neg (fun t => c (e5.mp t))], h.2 (by omega)⟩
  · by_cases c : y < x
    · exact .inl ⟨by rw [if_pos (e3.mpr c)], h.1 c⟩
    · exact .inr ⟨by rw [if_neg (fun t => c (e3.mp t))], h.2 (by omega)⟩
  · by_cases c : x ≤ y
    · exact .inl ⟨by rw [if_pos (e4.mpr c)], h.1 c⟩
    · exact .inr ⟨by rw [if_neg (fun t => c (e4.mp t))], h.2 (by omega)⟩
theorem iq_c0 (k : Jvm.ClassFile.Cond) (x : Int32) (o : Int) (pc : Nat) (r : List Value) : ij_bI (.ifCond k o) pc (.int x :: r) = ij_bI (.if_icmp k o) pc (.int (Int32.ofInt 0) :: .int x :: r) := by
  cases k <;> rfl
theorem iq_bif {b : Bool} {p q : Prop} (h : bif b then p else q) : (b = true ∧ p) ∨ (b = false ∧ q) := by
  cases b
  · exact .inr ⟨rfl, h⟩
  · exact .inl ⟨rfl, h⟩
theorem iq_br_ok {k : Jvm.ClassFile.Cond} {x y : Int ⊕ Int} {A B : Prop} (h : iq_br k x y A B) (pc : Nat) (o : Int) (r : List Value) : (ij_bI (.if_icmp k o) pc (.int (Int32.ofInt (iq_iv y)) :: .int (Int32.ofInt (iq_iv x)) :: r) = some (ij_tg pc o, r) ∧ A) ∨ (ij_bI (.if_icmp k o) pc (.int (Int32.ofInt (iq_iv y)) :: .int (Int32.ofInt (iq_iv x)) :: r) = some (pc + 3, r) ∧ B) := by
  unfold iq_br at h
  have hr : ∀ n : Int, iq_rb n = true → -2147483648 ≤ n ∧ n ≤ 2147483647 := by
    intro n hn
    unfold iq_rb at hn
    simpa using hn
  rcases x with x | x <;> rcases y with y | y <;> dsimp only at h
  · obtain ⟨h1, h2⟩ := iq_bf h
    simp only [Bool.and_eq_true] at h1
    have h3 : iq_cp k x y A B := by
      unfold iq_cp
      unfold iq_cd at h2
      cases k <;> dsimp only at h2 ⊢ <;> rcases iq_bif h2 with ⟨e, p⟩ | ⟨e, p⟩ <;> simp at e
      · exact ⟨fun _ => p, fun t => (t e).elim⟩
      · exact ⟨fun t => (e t).elim, fun _ => p⟩
      · exact ⟨fun _ => p, fun t => (e t).elim⟩
      · exact ⟨fun t => (t e).elim, fun _ => p⟩
      · exact ⟨fun _ => p, fun t => by omega⟩
      · exact ⟨fun t => by omega, fun _ => p⟩
      · exact ⟨fun _ => p, fun t => by omega⟩
      · exact ⟨fun t => by omega, fun _ => p⟩
      · exact ⟨fun _ => p, fun t => by omega⟩
      · exact ⟨fun t => by omega, fun _ => p⟩
      · exact ⟨fun _ => p, fun t => by omega⟩
      · exact ⟨fun t => by omega, fun _ => p⟩
    exact iq_cc (hr _ h1.1) (hr _ h1.2) h3 pc o r
  · obtain ⟨h1, h2⟩ := iq_bf h
    exact iq_cc (hr _ h1) h2.1 h2.2 pc o r
  · obtain ⟨h1, h2⟩ := iq_bf h
    exact iq_cc h2.1 (hr _ h1) h2.2 pc o r
  · exact iq_cc ⟨h.1.1, h.1.2.1⟩ h.1.2.2 h.2 pc o r
theorem iq_sw_ok {K : Nat → Prop} {pc : Nat} {x : Int} : ∀ (os : List Int) (v : Int) (j : Nat) (o : Int), iq_sw K pc x v os → os[j]? = some o → x = v + j → K (ij_tg pc o) := by
  intro os
  induction os with
  | nil => intro v j o _ h; simp at h
  | cons o1 os ih =>
    intro v j o h hj hx
    cases j with
    | zero =>
      simp at hj
      rw [← hj]
      exact h.1 (by omega)
    | succ j =>
      simp at hj
      exact ih (v + 1) j o h.2 hj (by omega)
theorem iq_sJ_ok {i : Instr} {pc : Nat} {st : List iq_V} {K : Nat → List iq_V → Prop} (h : iq_sJ i pc st K) : ∃ t q, K t q ∧ ij_bI i pc (st.map iq_lv) = some (t, q.map iq_lv) := by
  unfold iq_sJ at h
  split at h
  · exact ⟨_, _, h, rfl⟩
  · next k o =>
    split at h
    · next x r =>
      rcases iq_br_ok h pc o (r.map iq_lv) with ⟨e, hA⟩ | ⟨e, hB⟩
      · exact ⟨_, _, hA, by rw [← e]; exact iq_c0 _ _ _ _ _⟩
      · exact ⟨_, _, hB, by rw [← e]; exact iq_c0 _ _ _ _ _⟩
    · exact h.elim
  · next k o =>
    split at h
    · next y x r =>
      rcases iq_br_ok h pc o (r.map iq_lv) with ⟨e, hA⟩ | ⟨e, hB⟩
      · exact ⟨_, _, hA, e⟩
      · exact ⟨_, _, hB, e⟩
    · exact h.elim
  · next o =>
    split at h
    · next x r =>
      obtain ⟨h1, h2⟩ := iq_bg h
      refine ⟨_, _, h2, ?_⟩
      have hne : ¬ x = 1999999 := fun e => by rw [e] at h1; cases h1
      show (if x = 1999999 then none else some (pc + 3, _)) = _
      rw [if_neg hne]
    · exact ⟨_, _, h, rfl⟩
    · exact h.elim
  · next o =>
    split at h
    · next x r =>
      obtain ⟨h1, h2⟩ := iq_bg h
      refine ⟨_, _, h2, ?_⟩
      have hne : ¬ x = 1999999 := fun e => by rw [e] at h1; cases h1
      show (if x = 1999999 then none else some (ij_tg pc o, _)) = _
      rw [if_neg hne]
    · exact ⟨_, _, h, rfl⟩
    · exact h.elim
  · next d lo hi os =>
    split at h
    · next x r =>
      obtain ⟨⟨h1, h2, h3⟩, h4, h5⟩ := h
      have ht : (Int32.ofInt (iq_iv x)).toInt = iq_iv x := Int32.toInt_ofInt_of_le (by omega) (by omega)
      by_cases hr : iq_iv x < lo ∨ hi < iq_iv x
      · refine ⟨_, _, h5 hr, ?_⟩
        show (if (Int32.ofInt (iq_iv x)).toInt < lo ∨ hi < (Int32.ofInt (iq_iv x)).toInt then _ else _) = _
        rw [ht, if_pos hr]
      · have hb : (iq_iv x - lo).toNat < os.toList.length := by omega
        obtain ⟨o, ho⟩ : ∃ o, os.toList[(iq_iv x - lo).toNat]? = some o := ⟨_, List.getElem?_eq_getElem hb⟩
        refine ⟨_, _, iq_sw_ok os.toList lo (iq_iv x - lo).toNat o h4 ho (by omega), ?_⟩
        show (if (Int32.ofInt (iq_iv x)).toInt < lo ∨ hi < (Int32.ofInt (iq_iv x)).toInt then _ else (match os[((Int32.ofInt (iq_iv x)).toInt - lo).toNat]? with
          | some o => some (ij_tg pc o, _)
          | none => none)) = _
        rw [ht, if_neg hr]
        rw [Array.getElem?_toList] at ho
        rw [ho]
    · exact h.elim
  · exact h.elim
theorem iq_ix_ok {i : Int ⊕ Int} {n : Nat} {K : Int → Prop} (hn : n ≤ 65536) (h : iq_ix i n K) : 0 ≤ iq_iv i ∧ iq_iv i < n ∧ ¬ (Int32.ofInt (iq_iv i) < 0 ∨ n ≤ (Int32.ofInt (iq_iv i)).toNatClampNeg) ∧ (Int32.ofInt (iq_iv i)).toNatClampNeg = (iq_iv i).toNat ∧ K (iq_iv i) := by
  have h1 : 0 ≤ iq_iv i ∧ iq_iv i < n ∧ K (iq_iv i) := by
    unfold iq_ix at h
    rcases i with m | m
    · obtain ⟨a, b⟩ := iq_bf h
      simp only [Bool.and_eq_true, decide_eq_true_eq] at a
      exact ⟨a.1, a.2, b⟩
    · exact ⟨h.1.1, h.1.2, h.2⟩
  exact ⟨h1.1, h1.2.1, iq_in h1.1 h1.2.1 (by omega), iq_nat h1.1 (by omega), h1.2.2⟩
theorem iq_gz {g : iq_I} {j : Nat} {i : Int} (h : 0 ≤ i) : iq_up g j i.toNat = Int32.ofInt (g j i) := by
  unfold iq_up
  rw [Int.toNat_of_nonneg h]
theorem iq_lz {l : iq_J} {j : Nat} {i : Int} (h : 0 ≤ i) : iq_uq l j i.toNat = l j i := by
  unfold iq_uq
  rw [Int.toNat_of_nonneg h]
end
section
theorem iq_b2 {x y : Nat} (h : Nat.blt x y = true) : x < y := by simpa using h
theorem iq_b2f {x y : Nat} (h : Nat.blt x y = false) : ¬ x < y := by
  intro h1
  have : Nat.blt x y = true := by simpa using h1
  rw [this] at h; cases h
theorem iq_hR_ok {N : Nat} {xs : Nat → Int32} {i : Instr} {a b : Nat} {st : List iq_V} {g : iq_I} {l : iq_J} {K : List iq_V → Prop} (h : iq_hR N xs i a b st g l K) : ∃ q, K q ∧ ij_hR ij_tt (ij_xt N xs) i a b (st.map iq_lv) (iq_hp g l) = some (q.map iq_lv) := by
  unfold iq_hR at h
  split at h
  · -- getfield
    split at h
    · next j r =>
      rcases iq_bif h with ⟨hj, h⟩ | ⟨hj, h⟩
      · have hj := iq_b2 hj
        split at h
        · next kd n hs =>
          obtain ⟨h1, h2⟩ := iq_bf h
          simp only [Bool.and_eq_true, Nat.blt_eq, Nat.beq_eq] at h1
          obtain ⟨⟨h3, h4⟩, h5⟩ := h1
          split at h2
          · next ht =>
            refine ⟨_, h2, ?_⟩
            unfold ij_hR
            dsimp only [List.map, iq_lv, iq_hp]
            rw [if_pos hj, hs]
            try dsimp only
            rw [if_pos ⟨h3, h4, h5⟩, ht]; rfl
          · next ht =>
            unfold iq_rf at h2
            split at h2
            · next ho =>
              refine ⟨_, h2, ?_⟩
              unfold ij_hR
              dsimp only [List.map, iq_lv, iq_hp]
              rw [if_pos hj, hs]
              try dsimp only
              rw [if_pos ⟨h3, h4, h5⟩, ht]
              unfold ij_fv
              try dsimp only
              rw [ho]; rfl
            · next x ho =>
              obtain ⟨h6, h7⟩ := iq_bf h2
              refine ⟨_, h7, ?_⟩
              unfold ij_hR
              dsimp only [List.map, iq_lv, iq_hp]
              rw [if_pos hj, hs]
              try dsimp only
              rw [if_pos ⟨h3, h4, h5⟩, ht]
              unfold ij_fv
              try dsimp only
              rw [ho]
              unfold ij_rv
              try dsimp only
              rw [if_pos (iq_b2 h6)]; rfl
          · next hn1 hn2 =>
            refine ⟨_, h2, ?_⟩
            unfold ij_hR
            dsimp only [List.map, iq_lv, iq_hp]
            rw [if_pos hj, hs]
            try dsimp only
            rw [if_pos ⟨h3, h4, h5⟩]
            have hfv : ij_fv (ij_tt a b) (iq_up g, iq_uq l, ij_HR) j b = some (.int (iq_up g j b)) := by
              unfold ij_fv
              split
              · next h => exact (hn1 h).elim
              · next h => exact (hn2 h).elim
              · rfl
            rw [hfv]; rfl
        · exact h.elim
      · have hj := iq_b2f hj
        obtain ⟨h1, h2⟩ := iq_bf h
        simp only [Bool.and_eq_true, Nat.blt_eq, Nat.ble_eq, Nat.beq_eq] at h1
        have hc : 1000010 ≤ j ∧ j < 1000034 ∧ a = 114 := ⟨h1.1.1, h1.1.2, h1.2⟩
        split at h2
        · refine ⟨_, h2, ?_⟩
          unfold ij_hR
          dsimp only [List.map, iq_lv, iq_hp]
          rw [if_neg hj, if_pos hc]; rfl
        · refine ⟨_, h2, ?_⟩
          unfold ij_hR
          dsimp only [List.map, iq_lv, iq_hp]
          rw [if_neg hj, if_pos hc]; rfl
        · exact h2.elim
    · exact h.elim
  · -- iaload
    split at h
    · next i j r =>
      rcases iq_bif h with ⟨hj, h⟩ | ⟨hj, h⟩
      · have hj := iq_b2 hj
        split at h
        · next n hs =>
          obtain ⟨h1, h2, h3, h4, h5⟩ := iq_ix_ok (iq_sh hs) h
          refine ⟨_, h5, ?_⟩
          unfold ij_hR
          dsimp only [List.map, iq_lv, iq_hp]
          rw [if_pos hj, hs]
          refine (if_neg h3).trans ?_
          rw [h4, iq_gz h1]; rfl
        · exact h.elim
      · have hj := iq_b2f hj
        split at h
        · next n f hs =>
          obtain ⟨⟨h1, h2, h3⟩, h4⟩ := h
          refine ⟨_, h4, ?_⟩
          unfold ij_hR
          dsimp only [List.map, iq_lv, iq_hp]
          rw [if_neg hj, hs]
          refine (if_neg (iq_in h1 h2 (by omega))).trans ?_
          rw [iq_nat h1 (by omega)]
          show _ = some (Value.int (Int32.ofInt (f (iq_iv i).toNat).toInt) :: _)
          rw [iq_tof]
        · exact h.elim
    · exact h.elim
  · -- baload
    split at h
    · next i j r =>
      rcases iq_bif h with ⟨hj, h⟩ | ⟨hj, h⟩
      · have hj := iq_b2 hj
        split at h
        · next n hs =>
          obtain ⟨h1, h2, h3, h4, h5⟩ := iq_ix_ok (iq_sh hs) h
          refine ⟨_, h5, ?_⟩
          unfold ij_hR
          dsimp only [List.map, iq_lv, iq_hp]
          rw [if_pos hj, hs]
          refine (if_neg h3).trans ?_
          rw [h4, iq_gz h1]; rfl
        · next n hs =>
          obtain ⟨h1, h2, h3, h4, h5⟩ := iq_ix_ok (iq_sh hs) h
          refine ⟨_, h5, ?_⟩
          unfold ij_hR
          dsimp only [List.map, iq_lv, iq_hp]
          rw [if_pos hj, hs]
          refine (if_neg h3).trans ?_
          rw [h4, iq_gz h1]; rfl
        · exact h.elim
      · have hj := iq_b2f hj
        split at h
        · next n f hs =>
          obtain ⟨⟨h1, h2, h3⟩, h4⟩ := h
          refine ⟨_, h4, ?_⟩
          unfold ij_hR
          dsimp only [List.map, iq_lv, iq_hp]
          rw [if_neg hj, hs]
          refine (if_neg (iq_in h1 h2 (by omega))).trans ?_
          rw [iq_nat h1 (by omega)]
          show _ = some (Value.int (Int32.ofInt (f (iq_iv i).toNat).toInt) :: _)
          rw [iq_tof]
        · exact h.elim
    · exact h.elim
  · -- laload
    split at h
    · next i j r =>
      obtain ⟨hj, h⟩ := iq_bf h
      have hj := iq_b2 hj
      split at h
      · next n hs =>
        obtain ⟨h1, h2, h3, h4, h5⟩ := iq_ix_ok (iq_sh hs) h
        refine ⟨_, h5, ?_⟩
        unfold ij_hR
        dsimp only [List.map, iq_lv, iq_hp]
        rw [if_pos hj, hs]
        refine (if_neg h3).trans ?_
        rw [h4, iq_lz h1]
      · exact h.elim
    · exact h.elim
  · -- aaload
    split at h
    · next i j r =>
      obtain ⟨hj, h⟩ := iq_bf h
      have hj := iq_b2 hj
      split at h
      · next kd n hs =>
        obtain ⟨ha, h⟩ := iq_bf h
        simp only [Bool.and_eq_true, Nat.ble_eq] at ha
        obtain ⟨h1, h2, h3, h4, h5⟩ := iq_ix_ok (iq_sh hs) h
        have hc : ¬ (kd < 104 ∨ 106 < kd ∨ Int32.ofInt (iq_iv i) < 0 ∨ n ≤ (Int32.ofInt (iq_iv i)).toNatClampNeg) := by
          rintro (q | q | q)
          · omega
          · omega
          · exact h3 q
        unfold iq_rf at h5
        split at h5
        · next ho =>
          refine ⟨_, h5, ?_⟩
          unfold ij_hR
          dsimp only [List.map, iq_lv, iq_hp]
          rw [if_pos hj, hs]
          try dsimp only
          rw [if_neg hc, h4, ho]; rfl
        · next v ho =>
          obtain ⟨h6, h7⟩ := iq_bf h5
          refine ⟨_, h7, ?_⟩
          unfold ij_hR
          dsimp only [List.map, iq_lv, iq_hp]
          rw [if_pos hj, hs]
          try dsimp only
          rw [if_neg hc, h4, ho]
          unfold ij_rv
          try dsimp only
          rw [if_pos (iq_b2 h6)]; rfl
      · exact h.elim
    · exact h.elim
  · -- arraylength
    split at h
    · next j r =>
      rcases iq_bif h with ⟨hj, h⟩ | ⟨hj, h⟩
      · have hj := iq_b2 hj
        split at h
        · next kd n hs =>
          obtain ⟨ha, h⟩ := iq_bf h
          simp only [Bool.and_eq_true, Nat.ble_eq] at ha
          refine ⟨_, h, ?_⟩
          unfold ij_hR
          dsimp only [List.map, iq_lv, iq_hp]
          rw [if_pos hj, hs]
          try dsimp only
          have hc : ¬ (kd < 100 ∨ 106 < kd) := by omega
          rw [if_neg hc]
          show _ = some (Value.int (Int32.ofInt (n : Int)) :: _)
          rw [Int32.ofInt_eq_ofNat]
        · exact h.elim
      · have hj := iq_b2f hj
        split at h
        · next n f hs =>
          refine ⟨_, h, ?_⟩
          unfold ij_hR
          dsimp only [List.map, iq_lv, iq_hp]
          rw [if_neg hj, hs]
          show some (Value.int (Int32.ofNat n) :: _) = some (Value.int (Int32.ofInt (n : Int)) :: _)
          rw [Int32.ofInt_eq_ofNat]
        · exact h.elim
    · exact h.elim
  · -- getstatic
    split at h
    · exact ⟨_, h, rfl⟩
    · exact ⟨_, h, rfl⟩
    · exact ⟨_, h, rfl⟩
    · exact ⟨_, h, rfl⟩
    · exact ⟨_, h, rfl⟩
    · exact h.elim
  · -- ldc
    split at h
    · refine ⟨_, h, ?_⟩
      show some (Value.int (Int32.ofNat b) :: _) = some (Value.int (Int32.ofInt (b : Int)) :: _)
      rw [Int32.ofInt_eq_ofNat]
    · obtain ⟨h1, h2⟩ := iq_bf h
      refine ⟨_, h2, ?_⟩
      show (if b < 24 then some (Value.ref (1000010 + b) :: _) else none) = _
      rw [if_pos (iq_b2 h1)]; rfl
    · exact h.elim
  · split at h
    · refine ⟨_, h, ?_⟩
      show some (Value.int (Int32.ofNat b) :: _) = some (Value.int (Int32.ofInt (b : Int)) :: _)
      rw [Int32.ofInt_eq_ofNat]
    · exact h.elim
  · exact ⟨_, h, rfl⟩
  · exact h.elim
theorem iq_bl_ok {x : Int ⊕ Int} {K : Int → Prop} (h : iq_bl x K) : (iq_iv x = 0 ∨ iq_iv x = 1) ∧ K (iq_iv x) := by
  unfold iq_bl at h
  rcases x with m | m
  · obtain ⟨h1, h2⟩ := iq_bf h
    simp only [Bool.or_eq_true, decide_eq_true_eq] at h1
    exact ⟨h1, h2⟩
  · exact h
theorem iq_bl32 {z : Int} (h : z = 0 ∨ z = 1) : Int32.ofInt z = 0 ∨ Int32.ofInt z = 1 := by
  rcases h with rfl | rfl
  · exact .inl rfl
  · exact .inr rfl
theorem iq_bn (z : Int) (h : z = 0 ∨ z = 1) : vp_nar .boolean (Int32.ofInt z) = Int32.ofInt z := by
  rcases h with rfl | rfl <;> rfl
theorem iq_bb (z : Int) : vp_nar .byte (Int32.ofInt z) = Int32.ofInt (iq_i2b z) := by
  unfold iq_i2b
  rw [iq_tof]; rfl
theorem iq_hW_ok {N : Nat} {xs : Nat → Int32} {i : Instr} {a b : Nat} {st : List iq_V} {g : iq_I} {l : iq_J} {K : List iq_V → iq_I → iq_J → Prop} (h : iq_hW N xs i a b st g l K) : ∃ q g' l', K q g' l' ∧ ij_hW ij_tt (ij_xt N xs) i a b (st.map iq_lv) (iq_hp g l) = some (q.map iq_lv, iq_hp g' l') := by
  unfold iq_hW at h
  split at h
  · -- putfield
    split at h
    · next v j r =>
      obtain ⟨hj, h⟩ := iq_bf h
      have hj := iq_b2 hj
      split at h
      · next kd n hs =>
        obtain ⟨h1, h2⟩ := iq_bf h
        simp only [Bool.and_eq_true, Nat.blt_eq, Nat.beq_eq] at h1
        obtain ⟨⟨h3, h4⟩, h5⟩ := h1
        split at h2
        · next x ht hh =>
          refine ⟨_, _, _, h2, ?_⟩
          unfold ij_hW
          dsimp only [List.map, iq_lv, iq_hp]
          rw [if_pos hj, hs]
          try dsimp only
          rw [if_pos ⟨h3, h4, h5⟩, ht]
          have := iq_upu (g := g) (j := j) (i := (b : Int)) (v := iq_iv x) (by omega)
          rw [← this]; rfl
        · next x ht hh =>
          refine ⟨_, _, _, h2, ?_⟩
          unfold ij_hW
          dsimp only [List.map, iq_lv, iq_hp]
          rw [if_pos hj, hs]
          try dsimp only
          rw [if_pos ⟨h3, h4, h5⟩, ht]
          have := iq_uqu (g := l) (j := j) (i := (b : Int)) (v := x) (by omega)
          rw [← this]; rfl
        · next x ht hh =>
          obtain ⟨h6, h7⟩ := iq_bl_ok h2
          refine ⟨_, _, _, h7, ?_⟩
          unfold ij_hW
          dsimp only [List.map, iq_lv, iq_hp]
          rw [if_pos hj, hs]
          try dsimp only
          rw [if_pos ⟨h3, h4, h5⟩, ht]
          show Option.map _ (if Int32.ofInt (iq_iv x) = 0 ∨ Int32.ofInt (iq_iv x) = 1 then some (ij_ui (iq_up g) j b (Int32.ofInt (iq_iv x)), iq_uq l, ij_HR) else none) = _
          rw [if_pos (iq_bl32 h6)]
          have := iq_upu (g := g) (j := j) (i := (b : Int)) (v := iq_iv x) (by omega)
          rw [← this]; rfl
        · exact h2.elim
      · exact h.elim
    · exact h.elim
  · -- iastore
    split at h
    · next x i j r =>
      obtain ⟨hj, h⟩ := iq_bf h
      have hj := iq_b2 hj
      split at h
      · next n hs =>
        obtain ⟨h1, h2, h3, h4, h5⟩ := iq_ix_ok (iq_sh hs) h
        refine ⟨_, _, _, h5, ?_⟩
        unfold ij_hW
        dsimp only [List.map, iq_lv, iq_hp]
        rw [if_pos hj, hs]
        refine (if_neg h3).trans ?_
        rw [h4, iq_upu h1]
      · exact h.elim
    · exact h.elim
  · -- bastore
    split at h
    · next x i j r =>
      obtain ⟨hj, h⟩ := iq_bf h
      have hj := iq_b2 hj
      split at h
      · next n hs =>
        obtain ⟨h1, h2, h3, h4, h5⟩ := iq_ix_ok (iq_sh hs) h
        refine ⟨_, _, _, h5, ?_⟩
        unfold ij_hW
        dsimp only [List.map, iq_lv, iq_hp]
        rw [if_pos hj, hs]
        refine (if_neg h3).trans ?_
        rw [h4, iq_bb, iq_upu h1]
      · next n hs =>
        obtain ⟨h1, h2, h3, h4, h5⟩ := iq_ix_ok (iq_sh hs) h
        obtain ⟨h6, h7⟩ := iq_bl_ok h5
        refine ⟨_, _, _, h7, ?_⟩
        unfold ij_hW
        dsimp only [List.map, iq_lv, iq_hp]
        rw [if_pos hj, hs]
        refine (if_neg h3).trans ?_
        rw [h4, iq_bn _ h6, iq_upu h1]
      · exact h.elim
    · exact h.elim
  · -- lastore
    split at h
    · next x i j r =>
      obtain ⟨hj, h⟩ := iq_bf h
      have hj := iq_b2 hj
      split at h
      · next n hs =>
        obtain ⟨h1, h2, h3, h4, h5⟩ := iq_ix_ok (iq_sh hs) h
        refine ⟨_, _, _, h5, ?_⟩
        unfold ij_hW
        dsimp only [List.map, iq_lv, iq_hp]
        rw [if_pos hj, hs]
        refine (if_neg h3).trans ?_
        rw [h4, iq_uqu h1]
      · exact h.elim
    · exact h.elim
  · exact h.elim
theorem iq_cat (v : iq_V) : (iq_lv v).category = iq_ct v := by
  rcases v with x | (x | (_ | x)) <;> rfl
theorem iq_cats (r : List iq_V) : ((r.map iq_lv).map fun v => v.category) = r.map iq_ct := by
  rw [List.map_map]
  exact List.map_congr_left (fun v _ => iq_cat v)
theorem iq_cpu {α : Type} {f g : Int → α} {f' g' : Nat → α} {sp dp n : Int} (h1 : 0 ≤ sp) (h2 : 0 ≤ dp) (h3 : 0 ≤ n) (e1 : ∀ k : Nat, f' k = f k) (e2 : ∀ k : Nat, g' k = g k) : va_cpy f' g' sp.toNat dp.toNat n.toNat = fun k : Nat => iq_cz f g sp dp n k := by
  funext k
  unfold va_cpy iq_cz
  by_cases hc : dp.toNat ≤ k ∧ k < dp.toNat + n.toNat
  · have hd : dp ≤ (k : Int) ∧ (k : Int) < dp + n := by omega
    rw [if_pos hc, if_pos hd, e1]
    congr 1
    omega
  · have hd : ¬ (dp ≤ (k : Int) ∧ (k : Int) < dp + n) := by omega
    rw [if_neg hc, if_neg hd, e2]
theorem iq_rowI {g : iq_I} {d : Nat} {f : Int → Int} {r : Nat → Int32} (h : ∀ k : Nat, r k = Int32.ofInt (f k)) : ij_row (iq_up g) d r = iq_up (iq_rz g d f) := by
  funext a b
  unfold ij_row iq_up iq_rz
  by_cases hc : a = d
  · simp [hc, h]
  · simp [hc]
theorem iq_rowL {l : iq_J} {d : Nat} {f : Int → Int64} {r : Nat → Int64} (h : ∀ k : Nat, r k = f k) : ij_row (iq_uq l) d r = iq_uq (iq_rz l d f) := by
  funext a b
  unfold ij_row iq_uq iq_rz
  by_cases hc : a = d
  · simp [hc, h]
  · simp [hc]
theorem iq_czf {f g : Int → Int} {sp dp n : Int} (k : Int) : Int32.ofInt (iq_cz f g sp dp n k) = iq_cz (fun k => Int32.ofInt (f k)) (fun k => Int32.ofInt (g k)) sp dp n k := by
  unfold iq_cz
  split <;> rfl
end
section
theorem iq_ac_ok {N : Nat} {xs : Nat → Int32} {k b : Nat} {st : List iq_V} {g : iq_I} {l : iq_J} {K : List iq_V → iq_I → iq_J → Prop} (h : iq_ac N xs st g l K) : ∃ q g' l', K q g' l' ∧ ij_hW ij_tt (ij_xt N xs) (.invokestatic k) 999998 b (st.map iq_lv) (iq_hp g l) = some (q.map iq_lv, iq_hp g' l') := by
  unfold iq_ac at h
  split at h
  · next n dp d sp s r =>
    obtain ⟨h0, h⟩ := iq_bf h
    simp only [Bool.and_eq_true, Nat.blt_eq, Nat.ble_eq] at h0
    have hcat : ((r.map iq_lv).map fun v => v.category).sum ≤ 8 := by rw [iq_cats]; exact h0.2
    split at h
    · next n1 hd =>
      have hn1 := iq_sh hd
      rcases iq_bif h with ⟨hs, h⟩ | ⟨hs, h⟩
      · have hs := iq_b2 hs
        split at h
        · next n0 hs0 =>
          obtain ⟨⟨h1, h2, h3, h4, h5⟩, h6⟩ := h
          have hn0 := iq_sh hs0
          refine ⟨_, _, _, h6, ?_⟩
          unfold ij_hW
          dsimp only [List.map, iq_lv, iq_hp]
          have hg : d < 1000000 ∧ ¬ Int32.ofInt (iq_iv sp) < 0 ∧ ¬ Int32.ofInt (iq_iv dp) < 0 ∧ ¬ Int32.ofInt (iq_iv n) < 0 ∧ ((r.map iq_lv).map fun v => v.category).sum ≤ 8 := ⟨h0.1, iq_ge0 h1 (by omega), iq_ge0 h2 (by omega), iq_ge0 h3 (by omega), hcat⟩
          refine (if_pos hg).trans ?_
          rw [hd]
          refine (if_neg (show ¬ n1 < (Int32.ofInt (iq_iv dp)).toNatClampNeg + (Int32.ofInt (iq_iv n)).toNatClampNeg by rw [iq_nat h2 (by omega), iq_nat h3 (by omega)]; omega)).trans ?_
          refine (if_pos hs).trans ?_
          rw [hs0]
          refine (if_neg (show ¬ n0 < (Int32.ofInt (iq_iv sp)).toNatClampNeg + (Int32.ofInt (iq_iv n)).toNatClampNeg by rw [iq_nat h1 (by omega), iq_nat h3 (by omega)]; omega)).trans ?_
          rw [iq_nat h1 (by omega), iq_nat h2 (by omega), iq_nat h3 (by omega)]
          rw [iq_rowI (f := iq_cz (g s) (g d) (iq_iv sp) (iq_iv dp) (iq_iv n))]
          intro q
          rw [iq_czf]
          exact congrFun (iq_cpu (f := fun k => Int32.ofInt (g s k)) (g := fun k => Int32.ofInt (g d k)) (f' := iq_up g s) (g' := iq_up g d) h1 h2 h3 (fun _ => rfl) (fun _ => rfl)) q
        · exact h.elim
      · have hs := iq_b2f hs
        split at h
        · next n0 f hs0 =>
          obtain ⟨⟨h1, h2, h3, h4, h5, h5'⟩, h6⟩ := h
          refine ⟨_, _, _, h6, ?_⟩
          unfold ij_hW
          dsimp only [List.map, iq_lv, iq_hp]
          have hg : d < 1000000 ∧ ¬ Int32.ofInt (iq_iv sp) < 0 ∧ ¬ Int32.ofInt (iq_iv dp) < 0 ∧ ¬ Int32.ofInt (iq_iv n) < 0 ∧ ((r.map iq_lv).map fun v => v.category).sum ≤ 8 := ⟨h0.1, iq_ge0 h1 (by omega), iq_ge0 h2 (by omega), iq_ge0 h3 (by omega), hcat⟩
          refine (if_pos hg).trans ?_
          rw [hd]
          refine (if_neg (show ¬ n1 < (Int32.ofInt (iq_iv dp)).toNatClampNeg + (Int32.ofInt (iq_iv n)).toNatClampNeg by rw [iq_nat h2 (by omega), iq_nat h3 (by omega)]; omega)).trans ?_
          refine (if_neg hs).trans ?_
          rw [hs0]
          refine (if_neg (show ¬ n0 < (Int32.ofInt (iq_iv sp)).toNatClampNeg + (Int32.ofInt (iq_iv n)).toNatClampNeg by rw [iq_nat h1 (by omega), iq_nat h3 (by omega)]; omega)).trans ?_
          rw [iq_nat h1 (by omega), iq_nat h2 (by omega), iq_nat h3 (by omega)]
          rw [iq_rowI (f := iq_cz (fun k => (f k.toNat).toInt) (g d) (iq_iv sp) (iq_iv dp) (iq_iv n))]
          intro q
          rw [iq_czf]
          exact congrFun (iq_cpu (f := fun k => Int32.ofInt (f k.toNat).toInt) (g := fun k => Int32.ofInt (g d k)) (f' := f) (g' := iq_up g d) h1 h2 h3 (fun k => by rw [iq_tof, Int.toNat_natCast]) (fun _ => rfl)) q
        · exact h.elim
    · next n1 hd =>
      have hn1 := iq_sh hd
      obtain ⟨hs, h⟩ := iq_bf h
      have hs := iq_b2 hs
      split at h
      · next n0 hs0 =>
        obtain ⟨⟨h1, h2, h3, h4, h5⟩, h6⟩ := h
        have hn0 := iq_sh hs0
        refine ⟨_, _, _, h6, ?_⟩
        unfold ij_hW
        dsimp only [List.map, iq_lv, iq_hp]
        have hg : d < 1000000 ∧ ¬ Int32.ofInt (iq_iv sp) < 0 ∧ ¬ Int32.ofInt (iq_iv dp) < 0 ∧ ¬ Int32.ofInt (iq_iv n) < 0 ∧ ((r.map iq_lv).map fun v => v.category).sum ≤ 8 := ⟨h0.1, iq_ge0 h1 (by omega), iq_ge0 h2 (by omega), iq_ge0 h3 (by omega), hcat⟩
        refine (if_pos hg).trans ?_
        rw [hd]
        refine (if_neg (show ¬ n1 < (Int32.ofInt (iq_iv dp)).toNatClampNeg + (Int32.ofInt (iq_iv n)).toNatClampNeg by rw [iq_nat h2 (by omega), iq_nat h3 (by omega)]; omega)).trans ?_
        refine (if_pos hs).trans ?_
        rw [hs0]
        refine (if_neg (show ¬ n0 < (Int32.ofInt (iq_iv sp)).toNatClampNeg + (Int32.ofInt (iq_iv n)).toNatClampNeg by rw [iq_nat h1 (by omega), iq_nat h3 (by omega)]; omega)).trans ?_
        rw [iq_nat h1 (by omega), iq_nat h2 (by omega), iq_nat h3 (by omega)]
        rw [iq_rowL (f := iq_cz (l s) (l d) (iq_iv sp) (iq_iv dp) (iq_iv n))]
        intro q
        exact congrFun (iq_cpu (f := l s) (g := l d) (f' := iq_uq l s) (g' := iq_uq l d) h1 h2 h3 (fun _ => rfl) (fun _ => rfl)) q
      · exact h.elim
    · exact h.elim
  · exact h.elim
theorem iq_narb {z : Int} (h1 : -128 ≤ z) (h2 : z ≤ 127) : narrow .byte (.int (Int32.ofInt z)) = .int (Int32.ofInt z) := by
  show Value.int (Int32.ofInt z).toInt8.toInt32 = _
  congr 1
  apply Int32.toInt_inj.mp
  rw [Int8.toInt_toInt32, Int32.toInt_toInt8, Int32.toInt_ofInt_of_le (by omega) (by omega)]
  exact Int.bmod_eq_of_le (by omega) (by omega)
theorem iq_narc {z : Int} (h1 : 0 ≤ z) (h2 : z ≤ 65535) : narrow .char (.int (Int32.ofInt z)) = .int (Int32.ofInt z) := by
  obtain ⟨n, rfl⟩ := Int.eq_ofNat_of_zero_le h1
  show Value.int (Int32.ofInt (n : Int)).toUInt32.toUInt16.toUInt32.toInt32 = _
  congr 1
  rw [Int32.ofInt_eq_ofNat]
  show ((Int32.ofNat n).toUInt32.toUInt16.toUInt32).toInt32 = (UInt32.ofNat n).toInt32
  congr 1
  apply UInt32.toNat_inj.mp
  have h3 : n < 65536 := by omega
  show ((UInt32.ofNat n).toUInt16.toUInt32).toNat = _
  simp
  omega
theorem iq_sR_ok {rt : Nat} {i : Instr} {st : List iq_V} {Q : Option iq_V → Prop} (h : iq_sR rt i st Q) : ∃ r, Q r ∧ ij_rI rt i (st.map iq_lv) = some (r.map iq_lv) := by
  unfold iq_sR at h
  split at h
  · split at h
    · exact ⟨_, h, rfl⟩
    · exact h.elim
  · split at h
    · next x =>
      split at h
      · exact ⟨_, h, rfl⟩
      · obtain ⟨h1, h2⟩ := iq_bl_ok h
        refine ⟨_, h2, ?_⟩
        show (if Int32.ofInt (iq_iv x) = 0 ∨ Int32.ofInt (iq_iv x) = 1 then _ else _) = _
        rw [if_pos (iq_bl32 h1)]; rfl
      · refine ⟨_, h.2, ?_⟩
        show (if narrow .byte (.int (Int32.ofInt (iq_iv x))) = .int (Int32.ofInt (iq_iv x)) then _ else _) = _
        rw [if_pos (iq_narb h.1.1 h.1.2)]; rfl
      · refine ⟨_, h.2, ?_⟩
        show (if narrow .char (.int (Int32.ofInt (iq_iv x))) = .int (Int32.ofInt (iq_iv x)) then _ else _) = _
        rw [if_pos (iq_narc h.1.1 h.1.2)]; rfl
      · exact h.elim
    · exact h.elim
  · split at h
    · exact ⟨_, h, rfl⟩
    · exact h.elim
  · split at h
    · next x =>
      obtain ⟨h1, h2⟩ := iq_bg h
      have hne : ¬ x = 1999999 := fun e => by rw [e] at h1; cases h1
      refine ⟨_, h2, ?_⟩
      show (if x = 1999999 then none else some (some (Value.ref x))) = _
      rw [if_neg hne]; rfl
    · exact ⟨_, h, rfl⟩
    · exact h.elim
  · exact h.elim
theorem iq_ent_ok (as : List iq_V) : ij_ent (as.map iq_lv) = iq_ll (iq_en as) := by
  induction as with
  | nil => rfl
  | cons v r ih =>
    rcases v with x | (x | (_ | x))
    · show some (Value.int _) :: ij_ent (r.map iq_lv) = _
      rw [ih]; rfl
    · show some (Value.long _) :: none :: ij_ent (r.map iq_lv) = _
      rw [ih]; rfl
    · show some Value.null :: ij_ent (r.map iq_lv) = _
      rw [ih]; rfl
    · show some (Value.ref _) :: ij_ent (r.map iq_lv) = _
      rw [ih]; rfl
theorem iq_entry_ok {nL : Nat} {as : List iq_V} (h : (iq_en as).length ≤ nL) : ij_entry nL (as.map iq_lv) = some (iq_ll (iq_entry nL as)) := by
  unfold ij_entry iq_entry
  rw [iq_ent_ok, iq_len, if_pos h]
  unfold iq_ll
  simp
theorem iq_cl_ok {i : Instr} {n c : Nat} {st : List iq_V} {K : List iq_V → List iq_V → Prop} {g : iq_I} {l : iq_J} (h : iq_cl i n c st K) : ∃ as r, K as r ∧ ij_cI i n c (st.map iq_lv) (iq_hp g l) = some (as.map iq_lv, r.map iq_lv) := by
  unfold iq_cl at h
  split at h
  · split at h
    · next j hj =>
      obtain ⟨h1, h2⟩ := iq_bf h
      simp only [Bool.and_eq_true, Bool.or_eq_true, Nat.blt_eq, Nat.ble_eq, Nat.beq_eq] at h1
      refine ⟨_, _, h2, ?_⟩
      unfold ij_cI
      dsimp only [iq_hp]
      rw [List.getElem?_map, hj]
      show (if ((10 ≤ c ∧ c < 22 ∧ j < 1000000 ∧ (ij_SH[j]?).map Prod.fst = some (c - 10)) ∨ (c = 30 ∧ 1000010 ≤ j ∧ j < 1000034)) ∧ ((((st.map iq_lv).drop (n + 1)).map fun v => v.category).sum) ≤ 8 then some (((st.map iq_lv).take (n + 1)).reverse, (st.map iq_lv).drop (n + 1)) else none) = _
      rw [if_pos]
      · simp
      · refine ⟨?_, ?_⟩
        · rcases h1.1 with h3 | h3
          · left
            refine ⟨h3.1.1.1, h3.1.1.2, h3.1.2, ?_⟩
            have h4 := h3.2
            split at h4
            · next kd z hs =>
              rw [hs]
              simp only [Nat.beq_eq] at h4
              simp [h4]
            · cases h4
          · right
            exact ⟨h3.1.1, h3.1.2, h3.2⟩
        · rw [← List.map_drop, iq_cats]
          exact h1.2
    · exact h.elim
  · obtain ⟨h1, h2⟩ := iq_bf h
    simp only [Bool.and_eq_true, Bool.or_eq_true, Nat.ble_eq, Nat.beq_eq] at h1
    refine ⟨_, _, h2, ?_⟩
    unfold ij_cI
    dsimp only
    rw [if_pos]
    · simp
    · refine ⟨h1.1.1, ?_, ?_⟩
      · rw [List.length_map]; exact h1.1.2
      · rw [← List.map_drop, iq_cats]
        exact h1.2
  · split at h
    · next j hj =>
      obtain ⟨h1, h2⟩ := iq_bf h
      simp only [Bool.and_eq_true, Bool.or_eq_true, Nat.blt_eq, Nat.ble_eq, Nat.beq_eq] at h1
      refine ⟨_, _, h2, ?_⟩
      unfold ij_cI
      dsimp only
      rw [List.getElem?_map, hj]
      dsimp only [Option.map, iq_lv]
      rw [if_pos]
      · simp
      · refine ⟨h1.1.1, h1.1.2, ?_⟩
        rw [← List.map_drop, iq_cats]
        exact h1.2
    · exact h.elim
  · exact h.elim
theorem iq_dv {x y : Int} (h1 : -2147483648 ≤ x) (h2 : x ≤ 2147483647) (h3 : -2147483648 ≤ y) (h4 : y ≤ 2147483647) : Int32.ofInt x / Int32.ofInt y = Int32.ofInt (x.tdiv y) := (Int32.ofInt_tdiv h1 h2 h3 h4).symm
theorem iq_tm {x y : Int} (h1 : -2147483648 ≤ x) (h2 : x ≤ 2147483647) (h3 : -2147483648 ≤ y) (h4 : y ≤ 2147483647) : Int32.ofInt x - Int32.ofInt x / Int32.ofInt y * Int32.ofInt y = Int32.ofInt (x.tmod y) := by
  rw [iq_dv h1 h2 h3 h4, ← Int32.ofInt_mul, ← Int32.ofInt_sub]
  congr 1
  have := Int.tmod_add_mul_tdiv x y
  rw [Int.mul_comm (x.tdiv y) y]
  omega
theorem iq_sD_ok {i : Instr} {st : List iq_V} {K : List iq_V → Prop} (h : iq_sD i st K) : ∃ q, K q ∧ ij_sA i (st.map iq_lv) = some (q.map iq_lv) := by
  unfold iq_sD at h
  split at h
  · next y x r =>
    obtain ⟨⟨h1, h2, h3, h4, h5⟩, h⟩ := h
    have hy : ¬ Int32.ofInt (iq_iv y) = 0 := fun e => h5 ((iq_eqi h3 h4 (by omega) (by omega)).mp e)
    split at h
    · refine ⟨_, h, ?_⟩
      show (if Int32.ofInt (iq_iv y) = 0 then none else some (Value.int (Int32.ofInt (iq_iv x) / Int32.ofInt (iq_iv y)) :: _)) = _
      rw [if_neg hy, iq_dv (by omega) h2 h3 h4]; rfl
    · refine ⟨_, h, ?_⟩
      show (if Int32.ofInt (iq_iv y) = 0 then none else some (Value.int (Int32.ofInt (iq_iv x) - Int32.ofInt (iq_iv x) / Int32.ofInt (iq_iv y) * Int32.ofInt (iq_iv y)) :: _)) = _
      rw [if_neg hy, iq_tm (by omega) h2 h3 h4]; rfl
    · exact h.elim
  · exact h.elim
theorem iq_sE_ok {i : Instr} {st : List iq_V} {K : List iq_V → Prop} (h : iq_sE i st K) : ∃ q, K q ∧ ij_sB i (st.map iq_lv) = some (q.map iq_lv) := by
  unfold iq_sE at h
  split at h
  · next y x r =>
    obtain ⟨h1, h⟩ := h
    split at h
    · refine ⟨_, h, ?_⟩
      show (if y = 0 then none else some (Value.long (x / y) :: _)) = _
      rw [if_neg h1]; rfl
    · refine ⟨_, h, ?_⟩
      show (if y = 0 then none else some (Value.long (x - x / y * y) :: _)) = _
      rw [if_neg h1]; rfl
    · exact h.elim
  · exact h.elim
theorem iq_Pm {N : Nat} {xs : Nat → Int32} {y pc : Nat} {L : iq_LV} {st : List iq_V} {g : iq_I} {l : iq_J} {Q Q' : iq_T} (h : iq_P N xs y pc L st g l Q) (hq : ∀ r g l, Q r g l → Q' r g l) : iq_P N xs y pc L st g l Q' := by
  obtain ⟨n, r, h', e, r', g', l', h1, h2, h3⟩ := h
  exact ⟨n, r, h', e, r', g', l', h1, h2, hq _ _ _ h3⟩
end
section
def iq_isA (i : Instr) : Bool := match i with
  | .iadd => true
  | .isub => true
  | .imul => true
  | .iand => true
  | .ior => true
  | .ixor => true
  | .idiv => true
  | .irem => true
  | .ishl => true
  | .ishr => true
  | _ => false
theorem iq_nA {i : Instr} {st : List Value} (h : iq_isA i = false) : ij_sA i st = none := by
  unfold ij_sA
  split
  · split
    all_goals first
      | rfl
      | (simp [iq_isA] at h; done)
  · rfl
theorem iq_nW {xt : ij_X} {k a b : Nat} {st : List Value} {h : ij_H} (ha : ¬ a = 999998) : ij_hW ij_tt xt (.invokestatic k) a b st h = none := by
  unfold ij_hW
  dsimp only
  split
  · exact (ha rfl).elim
  · rfl
theorem iq_nR {xt : ij_X} {k a b : Nat} {st : List Value} {h : ij_H} (ha : ¬ a = 999999) : ij_hR ij_tt xt (.invokespecial k) a b st h = none := by
  unfold ij_hR
  dsimp only
  split
  · exact (ha rfl).elim
  · rfl
/-! A stretch: if what is asked of it holds, it ends well. -/
theorem iq_nm (L : iq_LV) : iq_ll (L.map iq_nv) = iq_ll L := by
  unfold iq_ll
  rw [List.map_map]
  refine List.map_congr_left (fun v _ => ?_)
  rcases v with _ | (x | x) <;> rfl
theorem iq_Pn {N : Nat} {xs : Nat → Int32} {y pc : Nat} {L : iq_LV} {st : List iq_V} {g : iq_I} {l : iq_J} {Q : iq_T} (h : iq_P N xs y pc (L.map iq_nv) st g l Q) : iq_P N xs y pc L st g l Q := by
  unfold iq_P at h ⊢
  rw [iq_nm] at h
  exact h
theorem iq_wb_ok {N : Nat} {xs : Nat → Int32} {y : Nat} {Q : iq_T} {K : iq_K} {pc : Nat} {L : iq_LV} {st : List iq_V} {g : iq_I} {l : iq_J} (hK : ∀ pc L st g l, K pc L st g l → iq_P N xs y pc L st g l Q) (h : iq_wb N xs y Q K pc L st g l) : iq_P N xs y pc L st g l Q := by
  unfold iq_wb at h
  split at h
  · exact h.elim
  · next i len a b c hk =>
    split at h
    · -- 0
      next hkd =>
      split at h
      · next q hq => exact iq_e0 hk (iq_sL_ok hq) (hK _ _ _ _ _ h)
      · exact h.elim
    · next hkd =>
      split at h
      · next q hq =>
        have h0 : ij_sL i (iq_ll L) (st.map iq_lv) = none := by
          unfold iq_kd at hkd
          split at hkd
          all_goals first
            | rfl
            | cases hkd
        exact iq_e1 hk h0 (iq_sA_ok hq) (hK _ _ _ _ _ h)
      · exact h.elim
    · next hkd =>
      have h0 : ij_sL i (iq_ll L) (st.map iq_lv) = none := by
        unfold iq_kd at hkd
        split at hkd
        all_goals first
          | rfl
          | cases hkd
      obtain ⟨q, h1, h2⟩ := iq_sD_ok h
      exact iq_e1 hk h0 h2 (hK _ _ _ _ _ h1)
    · next hkd =>
      split at h
      · next q hq =>
        have hq' := iq_sB_ok hq
        unfold iq_sB at hq
        split at hq
        all_goals first
          | exact iq_e4 hk rfl (iq_nA rfl) rfl rfl hq' (hK _ _ _ _ _ h)
          | cases hq
      · exact h.elim
    · next hkd =>
      obtain ⟨q, h1, h2⟩ := iq_sE_ok h
      unfold iq_sE at h
      split at h
      · obtain ⟨-, h⟩ := h
        split at h
        · exact iq_e4 hk rfl (iq_nA rfl) rfl rfl h2 (hK _ _ _ _ _ h1)
        · exact iq_e4 hk rfl (iq_nA rfl) rfl rfl h2 (hK _ _ _ _ _ h1)
        · exact h.elim
      · exact h.elim
    · next hkd =>
      obtain ⟨t, q, h1, h2⟩ := iq_sJ_ok h
      unfold iq_sJ at h
      split at h
      all_goals first
        | exact iq_e2 hk rfl (iq_nA rfl) h2 (hK _ _ _ _ _ h1)
        | exact h.elim
    · next hkd =>
      obtain ⟨q, h1, h2⟩ := iq_hR_ok h
      unfold iq_hR at h
      split at h
      all_goals first
        | exact iq_e3 hk rfl (iq_nA rfl) rfl h2 (hK _ _ _ _ _ h1)
        | exact h.elim
    · next hkd =>
      obtain ⟨q, g', l', h1, h2⟩ := iq_hW_ok h
      unfold iq_hW at h
      split at h
      all_goals first
        | exact iq_e5 hk rfl (iq_nA rfl) rfl rfl rfl h2 (hK _ _ _ _ _ h1)
        | exact h.elim
    · next hkd =>
      obtain ⟨r, h1, h2⟩ := iq_sR_ok h
      unfold iq_sR at h
      split at h
      all_goals first
        | exact iq_e6 hk rfl (iq_nA rfl) rfl rfl rfl rfl h2 ⟨_, _, _, rfl, rfl, h1⟩
        | exact h.elim
    · rcases iq_bif h with ⟨ha, h⟩ | ⟨ha, h⟩
      · have ha : a = 999998 := by simpa using ha
        subst ha
        split at h
        · obtain ⟨q, g', l', h1, h2⟩ := iq_ac_ok h
          exact iq_e5 hk rfl (iq_nA rfl) rfl rfl rfl h2 (hK _ _ _ _ _ h1)
        · exact h.elim
      · have ha : ¬ a = 999998 := fun e => by rw [e] at ha; cases ha
        obtain ⟨ha2, h⟩ := iq_bg h
        have ha2 : ¬ a = 999999 := fun e => by rw [e] at ha2; cases ha2
        obtain ⟨as, r, h1, h2⟩ := iq_cl_ok (g := g) (l := l) h
        obtain ⟨h3, h4⟩ := iq_bf h1
        have h3 : (iq_en as).length ≤ ij_ml a := by simpa using h3
        have h5 := iq_entry_ok h3
        have k : ij_R (ij_xt N xs) a 0 (iq_ll (iq_entry (ij_ml a) as)) [] (iq_hp g l) (fun v h' => ij_R (ij_xt N xs) y (pc + 3) (iq_ll L) (v.toList ++ r.map iq_lv) h' (fun r h => ∃ r' g' l', r = r'.map iq_lv ∧ h = iq_hp g' l' ∧ Q r' g' l')) := by
          obtain ⟨n, v, h', e, v', g', l', e1, e2, h6⟩ := h4
          refine ⟨n, v, h', e, ?_⟩
          subst e1 e2
          unfold iq_rt at h6
          split at h6
          · obtain ⟨rfl, h6⟩ := h6
            exact hK _ _ _ _ _ h6
          · obtain ⟨x, rfl, h6⟩ := h6
            exact hK _ _ _ _ _ h6
          · have h7 : iq_P N xs y (pc + 3) L (v'.toList ++ r) g' l' Q := iq_Pn h6
            unfold iq_P at h7
            rw [List.map_append] at h7
            cases v' <;> exact h7
          · obtain ⟨x, rfl, h6⟩ := h6
            exact hK _ _ _ _ _ h6
        unfold iq_cl at h
        split at h
        · exact iq_e7 hk rfl (iq_nA rfl) rfl rfl rfl rfl rfl h2 h5 k
        · exact iq_e7 hk rfl (iq_nA rfl) rfl rfl rfl (iq_nW ha) rfl h2 h5 k
        · exact iq_e7 hk rfl (iq_nA rfl) rfl (iq_nR ha2) rfl rfl rfl h2 h5 k
        · exact h.elim
theorem iq_w_ok {N : Nat} {xs : Nat → Int32} {cuts : List Nat} {y : Nat} {Q : iq_T} : ∀ (k pc : Nat) (L : iq_LV) (st : List iq_V) (g : iq_I) (l : iq_J), iq_w N xs cuts y Q k pc L st g l → iq_P N xs y pc L st g l Q := by
  intro k
  induction k with
  | zero => intro pc L st g l h; exact h.elim
  | succ k ih =>
    intro pc L st g l h
    refine iq_wb_ok (K := fun pc L st g l => bif cuts.elem pc then iq_P N xs y pc (L.map iq_nv) st g l Q else iq_w N xs cuts y Q k pc L st g l) ?_ h
    intro pc L st g l h
    rcases iq_bif h with ⟨-, h⟩ | ⟨-, h⟩
    · exact iq_Pn h
    · exact ih _ _ _ _ _ h
end
section
/-! Sets as bits, comparisons of longs, small facts. -/
def iq_tb (x : Int64) (t : Int) : Bool := decide (0 ≤ t) && x.toBitVec.getLsbD t.toNat
theorem iq_lcR (x y : Int64) : -2147483648 ≤ iq_lc x y ∧ iq_lc x y ≤ 2147483647 := by
  unfold iq_lc
  exact ⟨Int32.le_toInt _, Int32.toInt_le _⟩
theorem iq_lcv (x y : Int64) : iq_lc x y = if y.toInt < x.toInt then 1 else if x.toInt = y.toInt then 0 else -1 := by
  unfold iq_lc lg_cmp
  by_cases h1 : x > y
  · have h2 : y.toInt < x.toInt := Int64.lt_iff_toInt_lt.mp h1
    rw [if_pos h1, if_pos h2]; rfl
  · have h2 : ¬ y.toInt < x.toInt := fun h => h1 (Int64.lt_iff_toInt_lt.mpr h)
    rw [if_neg h1, if_neg h2]
    by_cases h3 : x = y
    · rw [if_pos h3, if_pos (by rw [h3])]; rfl
    · rw [if_neg h3, if_neg (fun h => h3 (Int64.toInt_inj.mp h))]; rfl
theorem iq_lc0 {x y : Int64} : iq_lc x y = 0 ↔ x = y := by
  rw [iq_lcv]
  constructor
  · intro h
    split at h
    · omega
    · split at h
      · next h2 => exact Int64.toInt_inj.mp h2
      · omega
  · intro h; subst h; simp
theorem iq_lclt {x y : Int64} : iq_lc x y < 0 ↔ x.toInt < y.toInt := by
  rw [iq_lcv]; split
  · omega
  · split <;> omega
theorem iq_lcgt {x y : Int64} : 0 < iq_lc x y ↔ y.toInt < x.toInt := by
  rw [iq_lcv]; split
  · omega
  · split <;> omega
theorem iq_lcle {x y : Int64} : iq_lc x y ≤ 0 ↔ x.toInt ≤ y.toInt := by
  rw [iq_lcv]; split
  · omega
  · split <;> omega
theorem iq_lcge {x y : Int64} : 0 ≤ iq_lc x y ↔ y.toInt ≤ x.toInt := by
  rw [iq_lcv]; split
  · omega
  · split <;> omega
theorem iq_i2lv {x : Int} (h1 : -2147483648 ≤ x) (h2 : x ≤ 2147483647) : (iq_i2l x).toInt = x := by
  unfold iq_i2l
  rw [Int32.toInt_toInt64, Int32.toInt_ofInt_of_le (by omega) (by omega)]
theorem iq_i2le {x : Int} (h1 : -2147483648 ≤ x) (h2 : x ≤ 2147483647) : iq_i2l x = Int64.ofInt x := by
  unfold iq_i2l
  exact Int32.toInt64_ofInt h1 h2
theorem iq_l2iv {x : Int64} (h1 : -2147483648 ≤ x.toInt) (h2 : x.toInt ≤ 2147483647) : iq_l2i x = x.toInt := by
  unfold iq_l2i
  rw [Int64.toInt_toInt32]
  exact Int.bmod_eq_of_le (by omega) (by omega)
theorem iq_xorn {x y : Int} (h1 : -2147483648 ≤ x) (h2 : x ≤ 2147483647) (h3 : 0 ≤ y) (h4 : y ≤ 2147483647) : iq_xor x y < 0 ↔ x < 0 := by
  unfold iq_xor
  have e1 : ∀ z : Int32, z.toInt < 0 ↔ z.toBitVec.msb = true := by
    intro z
    rw [BitVec.msb_eq_toInt]
    simp
  have e2 := e1 (Int32.ofInt x)
  have e3 := e1 (Int32.ofInt y)
  rw [Int32.toInt_ofInt_of_le (by omega) (by omega)] at e2 e3
  rw [e1, Int32.toBitVec_xor, BitVec.msb_xor]
  have e4 : (Int32.ofInt y).toBitVec.msb = false := by
    rcases hb : (Int32.ofInt y).toBitVec.msb with _ | _
    · rfl
    · exact absurd (e3.mpr hb) (by omega)
  rw [e4, e2]
  simp
theorem iq_xorR (x y : Int) : -2147483648 ≤ iq_xor x y ∧ iq_xor x y ≤ 2147483647 := by
  unfold iq_xor
  exact ⟨Int32.le_toInt _, Int32.toInt_le _⟩
theorem iq_tmd {x y : Int} (h : 0 < y) : (0 ≤ x → Int.tmod x y = x % y) ∧ (x < 0 → Int.tmod x y = 0 → x % y = 0) ∧ (x < 0 → ¬ Int.tmod x y = 0 → Int.tmod x y + y = x % y) ∧ -y < Int.tmod x y ∧ Int.tmod x y < y := by
  have a1 := Int.emod_nonneg x (show y ≠ 0 by omega)
  have a2 := Int.emod_lt_of_pos x h
  have a3 : Int.tmod x y = if 0 ≤ x ∨ y ∣ x then x % y else x % y - (y.natAbs : Int) := by
    rw [Int.tmod_eq_emod]; split <;> simp
  have a4 : (y.natAbs : Int) = y := by omega
  rw [a4] at a3
  have a5 : y ∣ x ↔ x % y = 0 := Int.dvd_iff_emod_eq_zero
  by_cases c1 : 0 ≤ x
  · rw [if_pos (.inl c1)] at a3
    refine ⟨fun _ => a3, fun h => by omega, fun h => by omega, by omega, by omega⟩
  · by_cases c2 : y ∣ x
    · rw [if_pos (.inr c2)] at a3
      have := a5.mp c2
      refine ⟨fun _ => a3, fun _ _ => this, fun _ h => by omega, by omega, by omega⟩
    · rw [if_neg (by rintro (h | h) <;> contradiction)] at a3
      have : ¬ x % y = 0 := fun h => c2 (a5.mpr h)
      refine ⟨fun h => by omega, fun _ h => by omega, fun _ _ => by omega, by omega, by omega⟩
theorem iq_am : ∀ n : Fin 64, ((Int32.ofInt (n.val : Int)).toInt64.toUInt64 &&& Int64.toUInt64 63).toBitVec % 64 = BitVec.ofNat 64 n.val := by decide +kernel
theorem iq_al : ∀ n : Fin 64, (((Int32.ofInt (n.val : Int)).toInt64 &&& 63).toBitVec).smod 64 = BitVec.ofNat 64 n.val := by decide +kernel
theorem iq_lsr_bv {x : Int64} {n : Int} (h1 : 0 ≤ n) (h2 : n < 64) : (iq_lsr x n).toBitVec = x.toBitVec >>> n.toNat := by
  obtain ⟨k, rfl⟩ := Int.eq_ofNat_of_zero_le h1
  have hk : k < 64 := by omega
  have := iq_am ⟨k, hk⟩
  unfold iq_lsr
  show (x.toUInt64 >>> _).toBitVec = _
  rw [UInt64.toBitVec_shiftRight, show (64 : BitVec 64) = 64#64 from rfl] at *
  rw [this]
  simp
  congr 1
  omega
theorem iq_lsl_bv {x : Int64} {n : Int} (h1 : 0 ≤ n) (h2 : n < 64) : (iq_lsl x n).toBitVec = x.toBitVec <<< n.toNat := by
  obtain ⟨k, rfl⟩ := Int.eq_ofNat_of_zero_le h1
  have hk : k < 64 := by omega
  have := iq_al ⟨k, hk⟩
  unfold iq_lsl
  rw [Int64.toBitVec_shiftLeft]
  rw [this]
  simp
  congr 1
  omega
theorem iq_tb_lsr {x : Int64} {n t : Int} (h1 : 0 ≤ n) (h2 : n < 64) (h3 : 0 ≤ t) : iq_tb (iq_lsr x n) t = iq_tb x (t + n) := by
  unfold iq_tb
  rw [iq_lsr_bv h1 h2, BitVec.getLsbD_ushiftRight]
  have : n.toNat + t.toNat = (t + n).toNat := by omega
  rw [this]
  simp [h3, show 0 ≤ t + n by omega]
theorem iq_tb_lsl {x : Int64} {n t : Int} (h1 : 0 ≤ n) (h2 : n < 64) : iq_tb (iq_lsl x n) t = (decide (t < 64) && iq_tb x (t - n)) := by
  unfold iq_tb
  rw [iq_lsl_bv h1 h2, BitVec.getLsbD_shiftLeft]
  by_cases c : 0 ≤ t
  · by_cases c2 : n ≤ t
    · have e1 : t.toNat - n.toNat = (t - n).toNat := by omega
      have e2 : ¬ t.toNat < n.toNat := by omega
      have e3 : (t.toNat < 64) ↔ t < 64 := by omega
      simp [c, e1, e2, e3, c2]
    · have e2 : t.toNat < n.toNat := by omega
      simp [e2, c2]
  · simp [c, show ¬ n ≤ t by omega]
theorem iq_tb_or (x y : Int64) (t : Int) : iq_tb (x ||| y) t = (iq_tb x t || iq_tb y t) := by
  unfold iq_tb
  rw [Int64.toBitVec_or, BitVec.getLsbD_or]
  by_cases c : 0 ≤ t <;> simp [c]
theorem iq_tb_and (x y : Int64) (t : Int) : iq_tb (x &&& y) t = (iq_tb x t && iq_tb y t) := by
  unfold iq_tb
  rw [Int64.toBitVec_and, BitVec.getLsbD_and]
  by_cases c : 0 ≤ t <;> simp [c]
theorem iq_tb_xor (x y : Int64) (t : Int) : iq_tb (x ^^^ y) t = (iq_tb x t != iq_tb y t) := by
  unfold iq_tb
  rw [Int64.toBitVec_xor, BitVec.getLsbD_xor]
  by_cases c : 0 ≤ t <;> simp [c]
theorem iq_tb_0 (t : Int) : iq_tb 0 t = false := by
  unfold iq_tb
  simp
theorem iq_tb_m1 {t : Int} (h1 : 0 ≤ t) (h2 : t < 64) : iq_tb (-1) t = true := by
  unfold iq_tb
  have : ∀ n : Fin 64, (-1 : Int64).toBitVec.getLsbD n.val = true := by decide +kernel
  have := this ⟨t.toNat, by omega⟩
  rw [this]
  simp [h1]
theorem iq_tb_neg {x : Int64} {t : Int} (h : t < 0) : iq_tb x t = false := by
  unfold iq_tb
  simp [show ¬ 0 ≤ t by omega]
theorem iq_tb_ge {x : Int64} {t : Int} (h : 64 ≤ t) : iq_tb x t = false := by
  unfold iq_tb
  rw [BitVec.getLsbD_of_ge _ _ (by omega)]
  simp
theorem iq_tb_1 (t : Int) : iq_tb 1 t = decide (t = 0) := by
  by_cases c1 : t < 0
  · rw [iq_tb_neg c1]; simp; omega
  · by_cases c2 : 64 ≤ t
    · rw [iq_tb_ge c2]; simp; omega
    · have : ∀ n : Fin 64, (1 : Int64).toBitVec.getLsbD n.val = decide (n.val = 0) := by decide +kernel
      have := this ⟨t.toNat, by omega⟩
      unfold iq_tb
      rw [this]
      have e : (t.toNat = 0) ↔ t = 0 := by omega
      simp [e]; omega
theorem iq_tb_of {n : Int} (h1 : 0 ≤ n) (h2 : n < 64) (t : Int) : iq_tb (iq_lsl 1 n) t = decide (t = n) := by
  rw [iq_tb_lsl h1 h2, iq_tb_1]
  by_cases c : t = n
  · simp [c, h2]
  · have : ¬ t - n = 0 := by omega
    simp [c, this]
theorem iq_tb_below {n : Int} (h1 : 0 ≤ n) (h2 : n < 64) (t : Int) : iq_tb (iq_lsl 1 n - 1) t = (decide (0 ≤ t) && decide (t < n)) := by
  by_cases c1 : t < 0
  · rw [iq_tb_neg c1]; simp; omega
  · by_cases c2 : 64 ≤ t
    · rw [iq_tb_ge c2]; simp; omega
    · have : ∀ n : Fin 64, ∀ i : Fin 64, (iq_lsl 1 (n.val : Int) - 1).toBitVec.getLsbD i.val = decide (i.val < n.val) := by decide +kernel
      have := this ⟨n.toNat, by omega⟩ ⟨t.toNat, by omega⟩
      unfold iq_tb
      dsimp only at this
      rw [Int.toNat_of_nonneg h1] at this
      rw [this]
      have e : (t.toNat < n.toNat) ↔ t < n := by omega
      simp [e]
theorem iq_tb_ext {x y : Int64} (h : ∀ t, 0 ≤ t → t < 64 → iq_tb x t = iq_tb y t) : x = y := by
  apply Int64.toBitVec_inj.mp
  apply BitVec.eq_of_getLsbD_eq
  intro i hi
  have := h i (by omega) (by omega)
  unfold iq_tb at this
  simpa using this
theorem iq_ne0 {x : Int64} : ¬ x = 0 ↔ ∃ t, 0 ≤ t ∧ t < 64 ∧ iq_tb x t = true := by
  constructor
  · intro h
    refine Classical.byContradiction (fun hn => h (iq_tb_ext (fun t h1 h2 => ?_)))
    rw [iq_tb_0]
    rcases hb : iq_tb x t with _ | _
    · rfl
    · exact (hn ⟨t, h1, h2, hb⟩).elim
  · rintro ⟨t, -, -, h⟩ e
    rw [e, iq_tb_0] at h
    cases h
/-! how many of the first n -/
def iq_cn (f : Int → Bool) : Nat → Int
  | 0 => 0
  | n + 1 => iq_cn f n + (if f n then 1 else 0)
end
section
/-! Long.bitCount counts the bits. -/
def ij_us (x : Int64) (k : Int32) : Int64 := (x.toUInt64 >>> (k.toInt64.toUInt64 &&& Int64.toUInt64 63)).toInt64
def ij_pc1 (x : Int64) : Int64 := x - (ij_us x 1 &&& Int64.ofNat 6148914691236517205)
def ij_pc2 (x : Int64) : Int64 := (x &&& Int64.ofNat 3689348814741910323) + (ij_us x 2 &&& Int64.ofNat 3689348814741910323)
def ij_pc3 (x : Int64) : Int64 := (x + ij_us x 4) &&& Int64.ofNat 1085102592571150095
def ij_pc4 (x : Int64) (k : Int32) : Int64 := x + ij_us x k
def ij_pc (x : Int64) : Int32 := (ij_pc4 (ij_pc4 (ij_pc4 (ij_pc3 (ij_pc2 (ij_pc1 x))) 8) 16) 32).toInt32 &&& 127
set_option maxRecDepth 10000 in
theorem s_bitCount {xt : ij_X} {hi : Nat → Nat → Int32} {hl : Nat → Nat → Int64} {Q : Option Value → ij_H → Prop} (a0 : Int64) (q : Q (some (.int (ij_pc a0))) (ij_SH, hi, hl, ij_HR)) : ij_R xt 88 0 [some (.long a0), none] [] (ij_SH, hi, hl, ij_HR) Q := by
  refine ij_go 8 10 [some (.long (ij_pc1 a0)), none] [] (ij_SH, hi, hl, ij_HR) (fun n => rfl) ?_
  unfold ij_pc at q
  generalize ij_pc1 a0 = x at q
  refine ij_go 10 24 [some (.long (ij_pc2 x)), none] [] (ij_SH, hi, hl, ij_HR) (fun n => rfl) ?_
  generalize ij_pc2 x = x at q
  refine ij_go 8 34 [some (.long (ij_pc3 x)), none] [] (ij_SH, hi, hl, ij_HR) (fun n => rfl) ?_
  generalize ij_pc3 x = x at q
  refine ij_go 6 41 [some (.long (ij_pc4 x 8)), none] [] (ij_SH, hi, hl, ij_HR) (fun n => rfl) ?_
  generalize ij_pc4 x 8 = x at q
  refine ij_go 6 48 [some (.long (ij_pc4 x 16)), none] [] (ij_SH, hi, hl, ij_HR) (fun n => rfl) ?_
  generalize ij_pc4 x 16 = x at q
  refine ij_go 6 55 [some (.long (ij_pc4 x 32)), none] [] (ij_SH, hi, hl, ij_HR) (fun n => rfl) ?_
  generalize ij_pc4 x 32 = x at q
  exact ij_ret 5 (some (.int (x.toInt32 &&& 127))) (ij_SH, hi, hl, ij_HR) (fun n => rfl) q
/-! bytes -/
def iq_M (m : Nat) : Nat → Nat
  | 0 => 0
  | k + 1 => m + 256 * iq_M m k
theorem iq_tbs {a b : Nat} (h : a < 256) (i : Nat) : (a + 256 * b).testBit i = if i < 8 then a.testBit i else b.testBit (i - 8) := by
  have := Nat.testBit_two_pow_mul_add b (b := a) (i := 8) h i
  rw [Nat.add_comm]
  exact this
theorem iq_as {a b m n : Nat} (h1 : a < 256) (h2 : m < 256) : ((a + 256 * b) &&& (m + 256 * n)) = (a &&& m) + 256 * (b &&& n) := by
  apply Nat.eq_of_testBit_eq
  intro i
  have h3 : a &&& m < 256 := Nat.and_lt_two_pow _ (n := 8) h2
  rw [Nat.testBit_and, iq_tbs h1, iq_tbs h2, iq_tbs h3]
  split <;> rw [Nat.testBit_and]
theorem iq_ss {a b m n s : Nat} (hs : s ≤ 8) (h1 : a < 256) (h2 : m < 2 ^ (8 - s)) : (((a + 256 * b) >>> s) &&& (m + 256 * n)) = ((a >>> s) &&& m) + 256 * ((b >>> s) &&& n) := by
  have hm : m < 256 := Nat.lt_of_lt_of_le h2 (Nat.pow_le_pow_right (n := 2) (by decide) (show 8 - s ≤ 8 by omega))
  apply Nat.eq_of_testBit_eq
  intro i
  have h3 : a >>> s &&& m < 256 := Nat.and_lt_two_pow _ (n := 8) hm
  rw [Nat.testBit_and, Nat.testBit_shiftRight, iq_tbs h1, iq_tbs hm, iq_tbs h3]
  by_cases c : i < 8
  · rw [if_pos c, if_pos c, Nat.testBit_and, Nat.testBit_shiftRight]
    by_cases c2 : s + i < 8
    · rw [if_pos c2]
    · have : m.testBit i = false := Nat.testBit_lt_two_pow (Nat.lt_of_lt_of_le h2 (Nat.pow_le_pow_right (n := 2) (by decide) (by omega)))
      rw [this]; simp
  · rw [if_neg c, if_neg c, if_neg (by omega), Nat.testBit_and, Nat.testBit_shiftRight]
    congr 2
    omega
def iq_f1 (k x : Nat) : Nat := x - ((x >>> 1) &&& iq_M 85 k)
def iq_f2 (k x : Nat) : Nat := (x &&& iq_M 51 k) + ((x >>> 2) &&& iq_M 51 k)
def iq_f3 (k x : Nat) : Nat := (x + (x >>> 4)) &&& iq_M 15 k
def iq_F1 (a : Nat) : Nat := a - ((a >>> 1) &&& 85)
def iq_F2 (a : Nat) : Nat := (a &&& 51) + ((a >>> 2) &&& 51)
def iq_c8 (a : Nat) : Nat := iq_F2 (iq_F1 a) % 16 + iq_F2 (iq_F1 a) / 16
theorem iq_F12 : ∀ a : Fin 256, iq_F1 a.val < 256 ∧ iq_F2 (iq_F1 a.val) < 256 ∧ iq_F2 (iq_F1 a.val) % 16 ≤ 4 ∧ iq_F2 (iq_F1 a.val) / 16 ≤ 4 := by decide +kernel
theorem iq_f1s {k a b : Nat} (h : a < 256) : iq_f1 (k + 1) (a + 256 * b) = iq_F1 a + 256 * iq_f1 k b := by
  unfold iq_f1 iq_F1
  rw [iq_M, iq_ss (by omega) h (by decide)]
  have e1 : (a >>> 1 &&& 85) ≤ a := Nat.le_trans Nat.and_le_left (Nat.shiftRight_le a 1)
  have e2 : (b >>> 1 &&& iq_M 85 k) ≤ b := Nat.le_trans Nat.and_le_left (Nat.shiftRight_le b 1)
  omega
theorem iq_f2s {k a b : Nat} (h : a < 256) : iq_f2 (k + 1) (a + 256 * b) = iq_F2 a + 256 * iq_f2 k b := by
  unfold iq_f2 iq_F2
  rw [iq_M, iq_as h (by decide), iq_ss (by omega) h (by decide)]
  omega
theorem iq_f3s {k a b : Nat} (h : a < 256) (h1 : a % 16 ≤ 4) (h2 : a / 16 ≤ 4) (h3 : b % 16 ≤ 4) : iq_f3 (k + 1) (a + 256 * b) = (a % 16 + a / 16) + 256 * iq_f3 k b := by
  unfold iq_f3
  rw [iq_M]
  have e0 : (a + 256 * b) >>> 4 = a / 16 + 16 * b := by
    rw [Nat.shiftRight_eq_div_pow]
    omega
  have e1 : b >>> 4 = b / 16 := by
    rw [Nat.shiftRight_eq_div_pow]
  have e2 : a + 256 * b + (a + 256 * b) >>> 4 = ((a % 16 + a / 16) + 16 * (a / 16 + b % 16)) + 256 * (b + b >>> 4) := by
    rw [e0, e1]; omega
  rw [e2, iq_as (by omega) (by decide)]
  congr 1
  have e3 : ((a % 16 + a / 16) + 16 * (a / 16 + b % 16)) &&& 15 = ((a % 16 + a / 16) + 16 * (a / 16 + b % 16)) % 16 := Nat.and_two_pow_sub_one_eq_mod _ 4
  rw [e3]
  omega
def iq_S : Nat → Nat → Nat
  | 0, _ => 0
  | k + 1, x => iq_c8 (x % 256) + 256 * iq_S k (x / 256)
theorem iq_f0 (m : Nat) : iq_M m 0 = 0 := rfl
theorem iq_fS (k : Nat) : ∀ x : Nat, x < 256 ^ k → iq_f3 k (iq_f2 k (iq_f1 k x)) = iq_S k x ∧ iq_f2 k (iq_f1 k x) % 16 ≤ 4 := by
  induction k with
  | zero =>
    intro x hx
    have : x = 0 := by simpa using hx
    subst this
    exact ⟨by decide, by decide⟩
  | succ k ih =>
    intro x hx
    have hb : x / 256 < 256 ^ k := by
      rw [Nat.pow_succ] at hx
      exact Nat.div_lt_of_lt_mul (by omega)
    obtain ⟨ih1, ih2⟩ := ih (x / 256) hb
    have ha : x % 256 < 256 := Nat.mod_lt _ (by decide)
    have hx2 : x = x % 256 + 256 * (x / 256) := by omega
    obtain ⟨p1, p2, p3, p4⟩ := iq_F12 ⟨x % 256, ha⟩
    dsimp only at p1 p2 p3 p4
    have e1 : iq_f1 (k + 1) x = iq_F1 (x % 256) + 256 * iq_f1 k (x / 256) := by
      have := iq_f1s (k := k) (b := x / 256) ha
      rw [← hx2] at this
      exact this
    rw [e1, iq_f2s p1, iq_f3s p2 p3 p4 ih2, ih1]
    refine ⟨rfl, ?_⟩
    omega
theorem iq_fB (k : Nat) : ∀ x : Nat, x < 256 ^ k → iq_f2 k (iq_f1 k x) + (iq_f2 k (iq_f1 k x)) >>> 4 < 256 ^ k := by
  induction k with
  | zero =>
    intro x hx
    have : x = 0 := by simpa using hx
    subst this
    decide
  | succ k ih =>
    intro x hx
    have hb : x / 256 < 256 ^ k := by
      rw [Nat.pow_succ] at hx
      exact Nat.div_lt_of_lt_mul (by omega)
    have ih1 := ih (x / 256) hb
    have ih2 := (iq_fS k (x / 256) hb).2
    have ha : x % 256 < 256 := Nat.mod_lt _ (by decide)
    have hx2 : x = x % 256 + 256 * (x / 256) := by omega
    obtain ⟨p1, p2, p3, p4⟩ := iq_F12 ⟨x % 256, ha⟩
    dsimp only at p1 p2 p3 p4
    have e1 : iq_f1 (k + 1) x = iq_F1 (x % 256) + 256 * iq_f1 k (x / 256) := by
      have := iq_f1s (k := k) (b := x / 256) ha
      rw [← hx2] at this
      exact this
    rw [e1, iq_f2s p1]
    rw [Nat.shiftRight_eq_div_pow] at ih1 ⊢
    rw [Nat.pow_succ]
    generalize iq_f2 k (iq_f1 k (x / 256)) = b at *
    generalize iq_F2 (iq_F1 (x % 256)) = a at *
    clear e1 hx hb ih hx2 ha
    omega
theorem iq_usn {x : Int64} {k : Int32} {n : Nat} (hn : n < 64) (h : (k.toInt64.toUInt64 &&& Int64.toUInt64 63).toBitVec % 64 = BitVec.ofNat 64 n) : (ij_us x k).toBitVec.toNat = x.toBitVec.toNat >>> n := by
  unfold ij_us
  show (x.toUInt64 >>> _).toBitVec.toNat = _
  rw [UInt64.toBitVec_shiftRight, h, BitVec.ushiftRight_eq', BitVec.toNat_ushiftRight, BitVec.toNat_ofNat]
  show x.toBitVec.toNat >>> (n % 2 ^ 64) = _
  rw [Nat.mod_eq_of_lt (by omega)]
theorem iq_lt64 (x : Int64) : x.toBitVec.toNat < 256 ^ 8 := x.toBitVec.isLt
theorem iq_p1 (x : Int64) : (ij_pc1 x).toBitVec.toNat = iq_f1 8 x.toBitVec.toNat := by
  unfold ij_pc1 iq_f1
  rw [Int64.toBitVec_sub, BitVec.toNat_sub, Int64.toBitVec_and, BitVec.toNat_and, iq_usn (n := 1) (by decide) (by decide +kernel)]
  have e1 : (Int64.ofNat 6148914691236517205).toBitVec.toNat = iq_M 85 8 := by decide +kernel
  rw [e1]
  have e2 : (x.toBitVec.toNat >>> 1 &&& iq_M 85 8) ≤ x.toBitVec.toNat := Nat.le_trans Nat.and_le_left (Nat.shiftRight_le _ 1)
  have e3 := x.toBitVec.isLt
  omega
theorem iq_p2 (x : Int64) (h : iq_f2 8 x.toBitVec.toNat < 256 ^ 8) : (ij_pc2 x).toBitVec.toNat = iq_f2 8 x.toBitVec.toNat := by
  unfold ij_pc2
  unfold iq_f2 at h ⊢
  rw [Int64.toBitVec_add, BitVec.toNat_add, Int64.toBitVec_and, BitVec.toNat_and, Int64.toBitVec_and, BitVec.toNat_and, iq_usn (n := 2) (by decide) (by decide +kernel)]
  have e1 : (Int64.ofNat 3689348814741910323).toBitVec.toNat = iq_M 51 8 := by decide +kernel
  rw [e1]
  exact Nat.mod_eq_of_lt h
theorem iq_p3 (x : Int64) (h : x.toBitVec.toNat + x.toBitVec.toNat >>> 4 < 256 ^ 8) : (ij_pc3 x).toBitVec.toNat = iq_f3 8 x.toBitVec.toNat := by
  unfold ij_pc3 iq_f3
  rw [Int64.toBitVec_and, BitVec.toNat_and, Int64.toBitVec_add, BitVec.toNat_add, iq_usn (n := 4) (by decide) (by decide +kernel)]
  have e1 : (Int64.ofNat 1085102592571150095).toBitVec.toNat = iq_M 15 8 := by decide +kernel
  rw [e1]
  rw [Nat.mod_eq_of_lt (show _ < 2 ^ 64 from h)]
theorem iq_p4 {x : Int64} {k : Int32} {n : Nat} (hn : n < 64) (hk : (k.toInt64.toUInt64 &&& Int64.toUInt64 63).toBitVec % 64 = BitVec.ofNat 64 n) (h : x.toBitVec.toNat + x.toBitVec.toNat / 2 ^ n < 2 ^ 64) : (ij_pc4 x k).toBitVec.toNat = x.toBitVec.toNat + x.toBitVec.toNat / 2 ^ n := by
  unfold ij_pc4
  rw [Int64.toBitVec_add, BitVec.toNat_add, iq_usn hn hk, Nat.shiftRight_eq_div_pow]
  exact Nat.mod_eq_of_lt h
theorem iq_and127 (x : Int64) : (x.toInt32 &&& 127).toInt = ((x.toBitVec.toNat % 128 : Nat) : Int) := by
  have e1 : (x.toInt32 &&& 127).toBitVec.toNat = x.toBitVec.toNat % 128 := by
    rw [Int32.toBitVec_and, BitVec.toNat_and]
    have e2 : x.toInt32.toBitVec.toNat = x.toBitVec.toNat % 2 ^ 32 := by
      show (x.toBitVec.signExtend 32).toNat = _
      rw [BitVec.signExtend_eq_setWidth_of_le _ (by decide), BitVec.toNat_setWidth]
    have e3 : (127 : Int32).toBitVec.toNat = 2 ^ 7 - 1 := by decide
    rw [e2, e3, Nat.and_two_pow_sub_one_eq_mod]
    omega
  have e4 : (x.toInt32 &&& 127).toInt = (x.toInt32 &&& 127).toBitVec.toInt := rfl
  rw [e4, BitVec.toInt_eq_toNat_of_lt (by rw [e1]; omega), e1]
/-! the count -/
def iq_cN (f : Nat → Bool) : Nat → Nat
  | 0 => 0
  | n + 1 => iq_cN f n + (if f n then 1 else 0)
theorem iq_cN_add (f : Nat → Bool) (a b : Nat) : iq_cN f (a + b) = iq_cN f a + iq_cN (fun i => f (a + i)) b := by
  induction b with
  | zero => rfl
  | succ b ih =>
    rw [← Nat.add_assoc, iq_cN, iq_cN, ih]
    omega
theorem iq_cN_congr {f h : Nat → Bool} {n : Nat} (e : ∀ i, i < n → f i = h i) : iq_cN f n = iq_cN h n := by
  induction n with
  | zero => rfl
  | succ n ih =>
    rw [iq_cN, iq_cN, ih (fun i hi => e i (by omega)), e n (by omega)]
theorem iq_c8v : ∀ a : Fin 256, iq_c8 a.val = iq_cN a.val.testBit 8 ∧ iq_c8 a.val ≤ 8 := by decide +kernel
def iq_D : Nat → Nat → Nat
  | 0, _ => 0
  | k + 1, x => iq_c8 (x % 256) + iq_D k (x / 256)
theorem iq_D_ok (k : Nat) : ∀ x, iq_D k x = iq_cN x.testBit (8 * k) := by
  induction k with
  | zero => intro x; rfl
  | succ k ih =>
    intro x
    have ha : x % 256 < 256 := Nat.mod_lt _ (by decide)
    have hx2 : x % 256 + 256 * (x / 256) = x := by omega
    rw [iq_D, ih, show 8 * (k + 1) = 8 + 8 * k by omega, iq_cN_add, (iq_c8v ⟨x % 256, ha⟩).1]
    congr 1
    · refine iq_cN_congr (fun i hi => ?_)
      have := iq_tbs (b := x / 256) ha i
      rw [hx2, if_pos hi] at this
      exact this.symm
    · refine iq_cN_congr (fun i hi => ?_)
      have := iq_tbs (b := x / 256) ha (8 + i)
      rw [hx2, if_neg (by omega)] at this
      rw [this]
      congr 1
      omega
theorem iq_fold8 {c0 c1 c2 c3 c4 c5 c6 t1 t2 t3 t4 t5 t6 t7 : Nat} (h0 : c0 ≤ 8) (h1 : c1 ≤ 8) (h2 : c2 ≤ 8) (h3 : c3 ≤ 8) (h4 : c4 ≤ 8) (h5 : c5 ≤ 8) (h6 : c6 ≤ 8) (h7 : t7 ≤ 8) (e1 : t1 = c1 + 256 * t2) (e2 : t2 = c2 + 256 * t3) (e3 : t3 = c3 + 256 * t4) (e4 : t4 = c4 + 256 * t5) (e5 : t5 = c5 + 256 * t6) (e6 : t6 = c6 + 256 * t7) :
    ∃ y1 y2 : Nat, (c0 + 256 * t1) + (c0 + 256 * t1) / 2 ^ 8 = y1 ∧ y1 + y1 / 2 ^ 16 = y2 ∧ y1 < 2 ^ 64 ∧ y2 < 2 ^ 64 ∧ y2 + y2 / 2 ^ 32 < 2 ^ 64 ∧ (y2 + y2 / 2 ^ 32) % 128 = c0 + (c1 + (c2 + (c3 + (c4 + (c5 + (c6 + (t7 + 0))))))) := by
  have b6 : t6 ≤ 2056 := by omega
  have b5 : t5 ≤ 526344 := by omega
  have b4 : t4 ≤ 134744072 := by omega
  have b3 : t3 ≤ 34494482440 := by omega
  have b2 : t2 ≤ 8830587504648 := by omega
  have b1 : t1 ≤ 2260630401189896 := by omega
  have d1 : (c0 + 256 * t1) / 2 ^ 8 = t1 := by omega
  have d2 : (c0 + 256 * t1) + t1 = (c0 + c1) + 256 * (c1 + c2) + 65536 * (t2 + t3) := by
    clear e3 e4 e5 e6 d1
    omega
  have d3 : ((c0 + c1) + 256 * (c1 + c2) + 65536 * (t2 + t3)) / 2 ^ 16 = t2 + t3 := by
    clear e1 e2 e3 e4 e5 e6 d1 d2
    omega
  have d4 : t2 + t3 = (c2 + c3) + 256 * (c3 + c4) + 65536 * (t4 + t5) := by
    clear e1 e5 e6 d1 d2 d3
    omega
  have d5 : t4 + t5 = (c4 + c5) + 256 * (c5 + c6) + 65536 * (t6 + t7) := by
    clear e1 e2 e3 d1 d2 d3 d4
    omega
  have d6 : t6 + t7 = (c6 + t7) + 256 * t7 := by
    clear e1 e2 e3 e4 e5 d1 d2 d3 d4 d5
    omega
  refine ⟨(c0 + c1) + 256 * (c1 + c2) + 65536 * (t2 + t3), ((c0 + c1) + 256 * (c1 + c2) + 65536 * (t2 + t3)) + (t2 + t3), by rw [d1, d2], by rw [d3], ?_, ?_, ?_, ?_⟩
  · clear e1 e2 e3 e4 e5 e6 d1 d2 d3 d4 d5 d6
    omega
  · clear e1 e2 e3 e4 e5 e6 d1 d2 d3 d4 d5 d6
    omega
  · clear e1 e2 e3 e4 e5 e6 d1 d2 d3 d4 d5 d6
    omega
  · have d7 : ((c0 + c1) + 256 * (c1 + c2) + 65536 * (t2 + t3)) + (t2 + t3) = ((c0 + c1 + c2 + c3) + 256 * (c1 + c2 + c3 + c4)) + 65536 * ((t2 + t3) + (t4 + t5)) := by
      generalize t2 + t3 = u2 at *
      generalize t4 + t5 = u4 at *
      clear e1 e2 e3 e4 e5 e6 d1 d2 d3 d5 d6
      omega
    have d8 : (t2 + t3) + (t4 + t5) = (c2 + c3 + c4 + c5) + 256 * (c3 + c4 + c5 + c6) + 65536 * ((t4 + t5) + (t6 + t7)) := by
      generalize t2 + t3 = u2 at *
      generalize t4 + t5 = u4 at *
      generalize t6 + t7 = u6 at *
      clear e1 e2 e3 e4 e5 e6 d1 d2 d3 d6 d7
      omega
    have d9 : ((c0 + c1) + 256 * (c1 + c2) + 65536 * (t2 + t3)) + (t2 + t3) = (((c0 + c1 + c2 + c3) + 256 * (c1 + c2 + c3 + c4)) + 65536 * ((c2 + c3 + c4 + c5) + 256 * (c3 + c4 + c5 + c6))) + 4294967296 * ((t4 + t5) + (t6 + t7)) := by
      rw [d7, d8]
      generalize (t4 + t5) + (t6 + t7) = v
      omega
    have d10 : (t4 + t5) + (t6 + t7) = (c4 + c5 + c6 + t7) + 256 * (c5 + c6 + t7 + 256 * (t6 + t7)) := by
      generalize t4 + t5 = u4 at *
      generalize t6 + t7 = u6 at *
      clear e1 e2 e3 e4 e5 e6 d1 d2 d3 d4 d7 d8 d9
      omega
    rw [d9]
    generalize hv : (t4 + t5) + (t6 + t7) = v at *
    have d11 : ((((c0 + c1 + c2 + c3) + 256 * (c1 + c2 + c3 + c4)) + 65536 * ((c2 + c3 + c4 + c5) + 256 * (c3 + c4 + c5 + c6))) + 4294967296 * v) / 2 ^ 32 = v := by
      clear e1 e2 e3 e4 e5 e6 d1 d2 d3 d4 d5 d6 d7 d8 d9 d10 hv
      omega
    rw [d11]
    generalize t6 + t7 = u6 at *
    clear e1 e2 e3 e4 e5 e6 d1 d2 d3 d4 d5 d6 d7 d8 d9 d11 hv b1 b2 b3 b4 b5 b6
    omega
theorem iq_S8 (x : Nat) : ∃ y1 y2 : Nat, iq_S 8 x + iq_S 8 x / 2 ^ 8 = y1 ∧ y1 + y1 / 2 ^ 16 = y2 ∧ y1 < 2 ^ 64 ∧ y2 < 2 ^ 64 ∧ y2 + y2 / 2 ^ 32 < 2 ^ 64 ∧ (y2 + y2 / 2 ^ 32) % 128 = iq_D 8 x := by
  have hc : ∀ y : Nat, iq_c8 (y % 256) ≤ 8 := fun y => (iq_c8v ⟨y % 256, Nat.mod_lt _ (by decide)⟩).2
  have hs : ∀ y, iq_S 1 y = iq_c8 (y % 256) := fun y => rfl
  have hd : ∀ y, iq_D 1 y = iq_c8 (y % 256) + 0 := fun y => rfl
  have := iq_fold8 (hc x) (hc (x / 256)) (hc (x / 256 / 256)) (hc (x / 256 / 256 / 256)) (hc (x / 256 / 256 / 256 / 256)) (hc (x / 256 / 256 / 256 / 256 / 256)) (hc (x / 256 / 256 / 256 / 256 / 256 / 256)) (hc (x / 256 / 256 / 256 / 256 / 256 / 256 / 256)) (t1 := iq_S 7 (x / 256)) (t2 := iq_S 6 (x / 256 / 256)) (t3 := iq_S 5 (x / 256 / 256 / 256)) (t4 := iq_S 4 (x / 256 / 256 / 256 / 256)) (t5 := iq_S 3 (x / 256 / 256 / 256 / 256 / 256)) (t6 := iq_S 2 (x / 256 / 256 / 256 / 256 / 256 / 256)) rfl rfl rfl rfl rfl rfl
  exact this
theorem iq_cnN (f : Int → Bool) (n : Nat) : iq_cn f n = (iq_cN (fun i => f i) n : Nat) := by
  induction n with
  | zero => rfl
  | succ n ih =>
    rw [iq_cn, iq_cN, ih]
    split <;> simp
theorem iq_pcv (x : Int64) : (ij_pc x).toInt = iq_cn (iq_tb x) 64 := by
  unfold ij_pc
  rw [iq_and127]
  have hX := iq_lt64 x
  obtain ⟨s1, s2⟩ := iq_fS 8 _ hX
  have s3 := iq_fB 8 _ hX
  have q1 := iq_p1 x
  have q2 : (ij_pc2 (ij_pc1 x)).toBitVec.toNat = iq_f2 8 (iq_f1 8 x.toBitVec.toNat) := by
    rw [iq_p2 _ (by rw [q1]; exact Nat.lt_of_le_of_lt (Nat.le_add_right _ _) s3), q1]
  have q3 : (ij_pc3 (ij_pc2 (ij_pc1 x))).toBitVec.toNat = iq_S 8 x.toBitVec.toNat := by
    rw [iq_p3 _ (by rw [q2]; exact s3), q2, s1]
  obtain ⟨y1, y2, u1, u2, t1, t2, t3, t4⟩ := iq_S8 x.toBitVec.toNat
  generalize ij_pc3 (ij_pc2 (ij_pc1 x)) = y at q3 ⊢
  rw [← q3] at u1
  have q4 := iq_p4 (x := y) (k := 8) (n := 8) (by decide) (by decide +kernel) (by rw [u1]; exact t1)
  rw [u1] at q4
  have q5 := iq_p4 (x := ij_pc4 y 8) (k := 16) (n := 16) (by decide) (by decide +kernel) (by rw [q4, u2]; exact t2)
  rw [q4, u2] at q5
  have q6 := iq_p4 (x := ij_pc4 (ij_pc4 y 8) 16) (k := 32) (n := 32) (by decide) (by decide +kernel) (by rw [q5]; exact t3)
  rw [q5] at q6
  rw [q6]
  rw [t4, iq_D_ok, iq_cnN]
  congr 1
theorem sp88 {N : Nat} {xs : Nat → Int32} {Q : iq_T} {a0 : Int64} {g : iq_I} {l : iq_J} (q : Q (some (iq_i (iq_cn (iq_tb a0) 64))) g l) : iq_P N xs 88 0 [some (iq_l a0), none] [] g l Q := by
  refine s_bitCount a0 ⟨some (iq_i (iq_cn (iq_tb a0) 64)), g, l, ?_, rfl, q⟩
  show some (Value.int (ij_pc a0)) = some (Value.int (Int32.ofInt (iq_cn (iq_tb a0) 64)))
  rw [← iq_pcv, Int32.ofInt_toInt]
end
