section
-- ===== PART A: goes FIRST, ahead of the names: the tables' words, and 'selects' of the private methods out of them =====
/-- a private method of a class that the tables say can be made, by its rows of tables_1 -/
def lw_okq (q : MethodName × Nat) : Prop := (q.1.cls ≠ "java/lang/invoke/MethodHandle" ∧ q.1.cls ≠ "java/lang/invoke/VarHandle") ∧ Cond.instantiable q.1.cls q.2 ∈ tables_1 ∧ Cond.privateMethod q.1 ∈ tables_1 ∧ Cond.instanceMethod q.1 ∈ tables_1
theorem lw_p0 : lw_okq (⟨"ArmsBook", "requirePerson", "(I)V"⟩, 9) := ⟨⟨by decide +kernel, by decide +kernel⟩, List.mem_of_getElem? (i := 26) (by decide +kernel), List.mem_of_getElem? (i := 327) (by decide +kernel), List.mem_of_getElem? (i := 328) (by decide +kernel)⟩
theorem lw_p1 : lw_okq (⟨"java/lang/Throwable", "fillInStackTrace", "(I)Ljava/lang/Throwable;"⟩, 6) := ⟨⟨by decide +kernel, by decide +kernel⟩, List.mem_of_getElem? (i := 372) (by decide +kernel), List.mem_of_getElem? (i := 370) (by decide +kernel), List.mem_of_getElem? (i := 371) (by decide +kernel)⟩
theorem lw_p2 : lw_okq (⟨"ArmsBook$People", "canBeFather", "(II)Z"⟩, 9) := ⟨⟨by decide +kernel, by decide +kernel⟩, List.mem_of_getElem? (i := 34) (by decide +kernel), List.mem_of_getElem? (i := 408) (by decide +kernel), List.mem_of_getElem? (i := 409) (by decide +kernel)⟩
theorem lw_p3 : lw_okq (⟨"ArmsBook$People", "canBeMother", "(II)Z"⟩, 9) := ⟨⟨by decide +kernel, by decide +kernel⟩, List.mem_of_getElem? (i := 34) (by decide +kernel), List.mem_of_getElem? (i := 417) (by decide +kernel), List.mem_of_getElem? (i := 418) (by decide +kernel)⟩
theorem lw_p4 : lw_okq (⟨"ArmsBook$Scanner", "scanOne", "([BII)I"⟩, 3) := ⟨⟨by decide +kernel, by decide +kernel⟩, List.mem_of_getElem? (i := 156) (by decide +kernel), List.mem_of_getElem? (i := 474) (by decide +kernel), List.mem_of_getElem? (i := 475) (by decide +kernel)⟩
theorem lw_p5 : lw_okq (⟨"ArmsBook$Scanner", "put", "(II)V"⟩, 3) := ⟨⟨by decide +kernel, by decide +kernel⟩, List.mem_of_getElem? (i := 156) (by decide +kernel), List.mem_of_getElem? (i := 555) (by decide +kernel), List.mem_of_getElem? (i := 556) (by decide +kernel)⟩
theorem lw_p6 : lw_okq (⟨"ArmsBook$Parser", "readRule", "(I)V"⟩, 7) := ⟨⟨by decide +kernel, by decide +kernel⟩, List.mem_of_getElem? (i := 150) (by decide +kernel), List.mem_of_getElem? (i := 571) (by decide +kernel), List.mem_of_getElem? (i := 572) (by decide +kernel)⟩
theorem lw_p7 : lw_okq (⟨"ArmsBook$Parser", "blame", "(I)V"⟩, 7) := ⟨⟨by decide +kernel, by decide +kernel⟩, List.mem_of_getElem? (i := 150) (by decide +kernel), List.mem_of_getElem? (i := 575) (by decide +kernel), List.mem_of_getElem? (i := 576) (by decide +kernel)⟩
theorem lw_p8 : lw_okq (⟨"ArmsBook$Parser", "advance", "()V"⟩, 7) := ⟨⟨by decide +kernel, by decide +kernel⟩, List.mem_of_getElem? (i := 150) (by decide +kernel), List.mem_of_getElem? (i := 579) (by decide +kernel), List.mem_of_getElem? (i := 580) (by decide +kernel)⟩
theorem lw_p9 : lw_okq (⟨"ArmsBook$Parser", "readExpression", "(I)V"⟩, 7) := ⟨⟨by decide +kernel, by decide +kernel⟩, List.mem_of_getElem? (i := 150) (by decide +kernel), List.mem_of_getElem? (i := 584) (by decide +kernel), List.mem_of_getElem? (i := 585) (by decide +kernel)⟩
theorem lw_p10 : lw_okq (⟨"ArmsBook$Parser", "canBeginExpression", "()Z"⟩, 7) := ⟨⟨by decide +kernel, by decide +kernel⟩, List.mem_of_getElem? (i := 150) (by decide +kernel), List.mem_of_getElem? (i := 588) (by decide +kernel), List.mem_of_getElem? (i := 589) (by decide +kernel)⟩
theorem lw_p11 : lw_okq (⟨"ArmsBook$Parser", "readTest", "(I)V"⟩, 7) := ⟨⟨by decide +kernel, by decide +kernel⟩, List.mem_of_getElem? (i := 150) (by decide +kernel), List.mem_of_getElem? (i := 598) (by decide +kernel), List.mem_of_getElem? (i := 599) (by decide +kernel)⟩
theorem lw_p12 : lw_okq (⟨"ArmsBook$Parser", "readSum", "(I)V"⟩, 7) := ⟨⟨by decide +kernel, by decide +kernel⟩, List.mem_of_getElem? (i := 150) (by decide +kernel), List.mem_of_getElem? (i := 602) (by decide +kernel), List.mem_of_getElem? (i := 603) (by decide +kernel)⟩
theorem lw_p13 : lw_okq (⟨"ArmsBook$Parser", "readPart", "(I)V"⟩, 7) := ⟨⟨by decide +kernel, by decide +kernel⟩, List.mem_of_getElem? (i := 150) (by decide +kernel), List.mem_of_getElem? (i := 606) (by decide +kernel), List.mem_of_getElem? (i := 607) (by decide +kernel)⟩
theorem lw_p14 : lw_okq (⟨"ArmsBook$Parser", "emit", "(I)V"⟩, 7) := ⟨⟨by decide +kernel, by decide +kernel⟩, List.mem_of_getElem? (i := 150) (by decide +kernel), List.mem_of_getElem? (i := 610) (by decide +kernel), List.mem_of_getElem? (i := 611) (by decide +kernel)⟩
theorem lw_p15 : lw_okq (⟨"ArmsBook$Proof", "climb", "(LArmsBook$People;LArmsBook$Grants;II)V"⟩, 6) := ⟨⟨by decide +kernel, by decide +kernel⟩, List.mem_of_getElem? (i := 91) (by decide +kernel), List.mem_of_getElem? (i := 708) (by decide +kernel), List.mem_of_getElem? (i := 709) (by decide +kernel)⟩
def lw_privs_1 : List (MethodName × Nat) := [(⟨"ArmsBook", "requirePerson", "(I)V"⟩, 9), (⟨"java/lang/Throwable", "fillInStackTrace", "(I)Ljava/lang/Throwable;"⟩, 6), (⟨"ArmsBook$People", "canBeFather", "(II)Z"⟩, 9), (⟨"ArmsBook$People", "canBeMother", "(II)Z"⟩, 9), (⟨"ArmsBook$Scanner", "scanOne", "([BII)I"⟩, 3), (⟨"ArmsBook$Scanner", "put", "(II)V"⟩, 3), (⟨"ArmsBook$Parser", "readRule", "(I)V"⟩, 7), (⟨"ArmsBook$Parser", "blame", "(I)V"⟩, 7), (⟨"ArmsBook$Parser", "advance", "()V"⟩, 7), (⟨"ArmsBook$Parser", "readExpression", "(I)V"⟩, 7), (⟨"ArmsBook$Parser", "canBeginExpression", "()Z"⟩, 7), (⟨"ArmsBook$Parser", "readTest", "(I)V"⟩, 7), (⟨"ArmsBook$Parser", "readSum", "(I)V"⟩, 7), (⟨"ArmsBook$Parser", "readPart", "(I)V"⟩, 7), (⟨"ArmsBook$Parser", "emit", "(I)V"⟩, 7), (⟨"ArmsBook$Proof", "climb", "(LArmsBook$People;LArmsBook$Grants;II)V"⟩, 6)]
theorem lw_r1 : ∀ q ∈ lw_privs_1, lw_okq q := List.forall_mem_cons.mpr ⟨lw_p0, List.forall_mem_cons.mpr ⟨lw_p1, List.forall_mem_cons.mpr ⟨lw_p2, List.forall_mem_cons.mpr ⟨lw_p3, List.forall_mem_cons.mpr ⟨lw_p4, List.forall_mem_cons.mpr ⟨lw_p5, List.forall_mem_cons.mpr ⟨lw_p6, List.forall_mem_cons.mpr ⟨lw_p7, List.forall_mem_cons.mpr ⟨lw_p8, List.forall_mem_cons.mpr ⟨lw_p9, List.forall_mem_cons.mpr ⟨lw_p10, List.forall_mem_cons.mpr ⟨lw_p11, List.forall_mem_cons.mpr ⟨lw_p12, List.forall_mem_cons.mpr ⟨lw_p13, List.forall_mem_cons.mpr ⟨lw_p14, List.forall_mem_cons.mpr ⟨lw_p15, fun _ h => absurd h List.not_mem_nil⟩⟩⟩⟩⟩⟩⟩⟩⟩⟩⟩⟩⟩⟩⟩⟩
theorem lw_p16 : lw_okq (⟨"ArmsBook$Proof", "setMarks", "(LArmsBook$People;IJ)V"⟩, 6) := ⟨⟨by decide +kernel, by decide +kernel⟩, List.mem_of_getElem? (i := 91) (by decide +kernel), List.mem_of_getElem? (i := 730) (by decide +kernel), List.mem_of_getElem? (i := 731) (by decide +kernel)⟩
theorem lw_p17 : lw_okq (⟨"ArmsBook$People", "isElder", "(II)Z"⟩, 9) := ⟨⟨by decide +kernel, by decide +kernel⟩, List.mem_of_getElem? (i := 34) (by decide +kernel), List.mem_of_getElem? (i := 739) (by decide +kernel), List.mem_of_getElem? (i := 740) (by decide +kernel)⟩
theorem lw_p18 : lw_okq (⟨"ArmsBook$People", "heirOf", "(IJ)I"⟩, 9) := ⟨⟨by decide +kernel, by decide +kernel⟩, List.mem_of_getElem? (i := 34) (by decide +kernel), List.mem_of_getElem? (i := 781) (by decide +kernel), List.mem_of_getElem? (i := 782) (by decide +kernel)⟩
theorem lw_p19 : lw_okq (⟨"ArmsBook$Quarters", "addRow", "(II)V"⟩, 2) := ⟨⟨by decide +kernel, by decide +kernel⟩, List.mem_of_getElem? (i := 121) (by decide +kernel), List.mem_of_getElem? (i := 803) (by decide +kernel), List.mem_of_getElem? (i := 804) (by decide +kernel)⟩
theorem lw_p20 : lw_okq (⟨"ArmsBook$Quarters", "addArms", "(II)V"⟩, 2) := ⟨⟨by decide +kernel, by decide +kernel⟩, List.mem_of_getElem? (i := 121) (by decide +kernel), List.mem_of_getElem? (i := 818) (by decide +kernel), List.mem_of_getElem? (i := 819) (by decide +kernel)⟩
theorem lw_p21 : lw_okq (⟨"ArmsBook", "judge", "(II)V"⟩, 9) := ⟨⟨by decide +kernel, by decide +kernel⟩, List.mem_of_getElem? (i := 26) (by decide +kernel), List.mem_of_getElem? (i := 839) (by decide +kernel), List.mem_of_getElem? (i := 840) (by decide +kernel)⟩
theorem lw_p22 : lw_okq (⟨"ArmsBook", "countRivals", "(I)I"⟩, 9) := ⟨⟨by decide +kernel, by decide +kernel⟩, List.mem_of_getElem? (i := 26) (by decide +kernel), List.mem_of_getElem? (i := 847) (by decide +kernel), List.mem_of_getElem? (i := 848) (by decide +kernel)⟩
theorem lw_p23 : lw_okq (⟨"ArmsBook$Office", "inForce", "(I)LArmsBook$Text;"⟩, 8) := ⟨⟨by decide +kernel, by decide +kernel⟩, List.mem_of_getElem? (i := 198) (by decide +kernel), List.mem_of_getElem? (i := 856) (by decide +kernel), List.mem_of_getElem? (i := 857) (by decide +kernel)⟩
theorem lw_p24 : lw_okq (⟨"ArmsBook$Office", "work", "(I)V"⟩, 8) := ⟨⟨by decide +kernel, by decide +kernel⟩, List.mem_of_getElem? (i := 198) (by decide +kernel), List.mem_of_getElem? (i := 860) (by decide +kernel), List.mem_of_getElem? (i := 861) (by decide +kernel)⟩
theorem lw_p25 : lw_okq (⟨"ArmsBook$Office", "push", "(I)V"⟩, 8) := ⟨⟨by decide +kernel, by decide +kernel⟩, List.mem_of_getElem? (i := 198) (by decide +kernel), List.mem_of_getElem? (i := 865) (by decide +kernel), List.mem_of_getElem? (i := 866) (by decide +kernel)⟩
theorem lw_p26 : lw_okq (⟨"ArmsBook$Office", "nameValue", "(I)I"⟩, 8) := ⟨⟨by decide +kernel, by decide +kernel⟩, List.mem_of_getElem? (i := 198) (by decide +kernel), List.mem_of_getElem? (i := 870) (by decide +kernel), List.mem_of_getElem? (i := 871) (by decide +kernel)⟩
theorem lw_p27 : lw_okq (⟨"ArmsBook$Office", "pop", "()I"⟩, 8) := ⟨⟨by decide +kernel, by decide +kernel⟩, List.mem_of_getElem? (i := 198) (by decide +kernel), List.mem_of_getElem? (i := 874) (by decide +kernel), List.mem_of_getElem? (i := 875) (by decide +kernel)⟩
theorem lw_p28 : lw_okq (⟨"ArmsBook$Copies", "changes", "(II)I"⟩, 3) := ⟨⟨by decide +kernel, by decide +kernel⟩, List.mem_of_getElem? (i := 235) (by decide +kernel), List.mem_of_getElem? (i := 920) (by decide +kernel), List.mem_of_getElem? (i := 921) (by decide +kernel)⟩
theorem lw_p29 : lw_okq (⟨"ArmsBook$Copies", "rowOf", "(I)I"⟩, 3) := ⟨⟨by decide +kernel, by decide +kernel⟩, List.mem_of_getElem? (i := 235) (by decide +kernel), List.mem_of_getElem? (i := 924) (by decide +kernel), List.mem_of_getElem? (i := 925) (by decide +kernel)⟩
theorem lw_p30 : lw_okq (⟨"ArmsBook$Copies", "yearOf", "(I)I"⟩, 3) := ⟨⟨by decide +kernel, by decide +kernel⟩, List.mem_of_getElem? (i := 235) (by decide +kernel), List.mem_of_getElem? (i := 929) (by decide +kernel), List.mem_of_getElem? (i := 930) (by decide +kernel)⟩
theorem lw_p31 : lw_okq (⟨"ArmsBookModel", "is", "(I)Z"⟩, 43) := ⟨⟨by decide +kernel, by decide +kernel⟩, List.mem_of_getElem? (i := 959) (by decide +kernel), List.mem_of_getElem? (i := 1120) (by decide +kernel), List.mem_of_getElem? (i := 1121) (by decide +kernel)⟩
def lw_privs_2 : List (MethodName × Nat) := [(⟨"ArmsBook$Proof", "setMarks", "(LArmsBook$People;IJ)V"⟩, 6), (⟨"ArmsBook$People", "isElder", "(II)Z"⟩, 9), (⟨"ArmsBook$People", "heirOf", "(IJ)I"⟩, 9), (⟨"ArmsBook$Quarters", "addRow", "(II)V"⟩, 2), (⟨"ArmsBook$Quarters", "addArms", "(II)V"⟩, 2), (⟨"ArmsBook", "judge", "(II)V"⟩, 9), (⟨"ArmsBook", "countRivals", "(I)I"⟩, 9), (⟨"ArmsBook$Office", "inForce", "(I)LArmsBook$Text;"⟩, 8), (⟨"ArmsBook$Office", "work", "(I)V"⟩, 8), (⟨"ArmsBook$Office", "push", "(I)V"⟩, 8), (⟨"ArmsBook$Office", "nameValue", "(I)I"⟩, 8), (⟨"ArmsBook$Office", "pop", "()I"⟩, 8), (⟨"ArmsBook$Copies", "changes", "(II)I"⟩, 3), (⟨"ArmsBook$Copies", "rowOf", "(I)I"⟩, 3), (⟨"ArmsBook$Copies", "yearOf", "(I)I"⟩, 3), (⟨"ArmsBookModel", "is", "(I)Z"⟩, 43)]
theorem lw_r2 : ∀ q ∈ lw_privs_2, lw_okq q := List.forall_mem_cons.mpr ⟨lw_p16, List.forall_mem_cons.mpr ⟨lw_p17, List.forall_mem_cons.mpr ⟨lw_p18, List.forall_mem_cons.mpr ⟨lw_p19, List.forall_mem_cons.mpr ⟨lw_p20, List.forall_mem_cons.mpr ⟨lw_p21, List.forall_mem_cons.mpr ⟨lw_p22, List.forall_mem_cons.mpr ⟨lw_p23, List.forall_mem_cons.mpr ⟨lw_p24, List.forall_mem_cons.mpr ⟨lw_p25, List.forall_mem_cons.mpr ⟨lw_p26, List.forall_mem_cons.mpr ⟨lw_p27, List.forall_mem_cons.mpr ⟨lw_p28, List.forall_mem_cons.mpr ⟨lw_p29, List.forall_mem_cons.mpr ⟨lw_p30, List.forall_mem_cons.mpr ⟨lw_p31, fun _ h => absurd h List.not_mem_nil⟩⟩⟩⟩⟩⟩⟩⟩⟩⟩⟩⟩⟩⟩⟩⟩
theorem lw_p32 : lw_okq (⟨"ArmsBookModel", "fail", "()I"⟩, 43) := ⟨⟨by decide +kernel, by decide +kernel⟩, List.mem_of_getElem? (i := 959) (by decide +kernel), List.mem_of_getElem? (i := 1124) (by decide +kernel), List.mem_of_getElem? (i := 1125) (by decide +kernel)⟩
theorem lw_p33 : lw_okq (⟨"ArmsBookModel", "end", "(I)I"⟩, 43) := ⟨⟨by decide +kernel, by decide +kernel⟩, List.mem_of_getElem? (i := 959) (by decide +kernel), List.mem_of_getElem? (i := 1128) (by decide +kernel), List.mem_of_getElem? (i := 1129) (by decide +kernel)⟩
theorem lw_p34 : lw_okq (⟨"ArmsBookModel", "lives", "(II)Z"⟩, 43) := ⟨⟨by decide +kernel, by decide +kernel⟩, List.mem_of_getElem? (i := 959) (by decide +kernel), List.mem_of_getElem? (i := 1132) (by decide +kernel), List.mem_of_getElem? (i := 1133) (by decide +kernel)⟩
theorem lw_p35 : lw_okq (⟨"ArmsBookModel", "isChild", "(II)Z"⟩, 43) := ⟨⟨by decide +kernel, by decide +kernel⟩, List.mem_of_getElem? (i := 959) (by decide +kernel), List.mem_of_getElem? (i := 1144) (by decide +kernel), List.mem_of_getElem? (i := 1145) (by decide +kernel)⟩
theorem lw_p36 : lw_okq (⟨"ArmsBookModel", "rootOf", "(II)I"⟩, 43) := ⟨⟨by decide +kernel, by decide +kernel⟩, List.mem_of_getElem? (i := 959) (by decide +kernel), List.mem_of_getElem? (i := 1152) (by decide +kernel), List.mem_of_getElem? (i := 1153) (by decide +kernel)⟩
theorem lw_p37 : lw_okq (⟨"ArmsBookModel", "own", "(II)I"⟩, 43) := ⟨⟨by decide +kernel, by decide +kernel⟩, List.mem_of_getElem? (i := 959) (by decide +kernel), List.mem_of_getElem? (i := 1156) (by decide +kernel), List.mem_of_getElem? (i := 1157) (by decide +kernel)⟩
theorem lw_p38 : lw_okq (⟨"ArmsBookModel", "armsOf", "(II)I"⟩, 43) := ⟨⟨by decide +kernel, by decide +kernel⟩, List.mem_of_getElem? (i := 959) (by decide +kernel), List.mem_of_getElem? (i := 1160) (by decide +kernel), List.mem_of_getElem? (i := 1161) (by decide +kernel)⟩
theorem lw_p39 : lw_okq (⟨"ArmsBookModel", "stepsOf", "(II)I"⟩, 43) := ⟨⟨by decide +kernel, by decide +kernel⟩, List.mem_of_getElem? (i := 959) (by decide +kernel), List.mem_of_getElem? (i := 1164) (by decide +kernel), List.mem_of_getElem? (i := 1165) (by decide +kernel)⟩
theorem lw_p40 : lw_okq (⟨"ArmsBookModel", "gradeOf", "(II)I"⟩, 43) := ⟨⟨by decide +kernel, by decide +kernel⟩, List.mem_of_getElem? (i := 959) (by decide +kernel), List.mem_of_getElem? (i := 1168) (by decide +kernel), List.mem_of_getElem? (i := 1169) (by decide +kernel)⟩
theorem lw_p41 : lw_okq (⟨"ArmsBookModel", "lines", "(I)V"⟩, 43) := ⟨⟨by decide +kernel, by decide +kernel⟩, List.mem_of_getElem? (i := 959) (by decide +kernel), List.mem_of_getElem? (i := 1173) (by decide +kernel), List.mem_of_getElem? (i := 1174) (by decide +kernel)⟩
theorem lw_p42 : lw_okq (⟨"ArmsBookModel", "isHeiress", "(II)Z"⟩, 43) := ⟨⟨by decide +kernel, by decide +kernel⟩, List.mem_of_getElem? (i := 959) (by decide +kernel), List.mem_of_getElem? (i := 1177) (by decide +kernel), List.mem_of_getElem? (i := 1178) (by decide +kernel)⟩
theorem lw_p43 : lw_okq (⟨"ArmsBookModel", "marksAbove", "(II)I"⟩, 43) := ⟨⟨by decide +kernel, by decide +kernel⟩, List.mem_of_getElem? (i := 959) (by decide +kernel), List.mem_of_getElem? (i := 1181) (by decide +kernel), List.mem_of_getElem? (i := 1182) (by decide +kernel)⟩
theorem lw_p44 : lw_okq (⟨"ArmsBookModel", "marksOf", "(II)I"⟩, 43) := ⟨⟨by decide +kernel, by decide +kernel⟩, List.mem_of_getElem? (i := 959) (by decide +kernel), List.mem_of_getElem? (i := 1185) (by decide +kernel), List.mem_of_getElem? (i := 1186) (by decide +kernel)⟩
theorem lw_p45 : lw_okq (⟨"ArmsBookModel", "placeOf", "(II)I"⟩, 43) := ⟨⟨by decide +kernel, by decide +kernel⟩, List.mem_of_getElem? (i := 959) (by decide +kernel), List.mem_of_getElem? (i := 1189) (by decide +kernel), List.mem_of_getElem? (i := 1190) (by decide +kernel)⟩
theorem lw_p46 : lw_okq (⟨"ArmsBookModel", "isAhead", "(II)Z"⟩, 43) := ⟨⟨by decide +kernel, by decide +kernel⟩, List.mem_of_getElem? (i := 959) (by decide +kernel), List.mem_of_getElem? (i := 1193) (by decide +kernel), List.mem_of_getElem? (i := 1194) (by decide +kernel)⟩
theorem lw_p47 : lw_okq (⟨"ArmsBookModel", "quartersOf", "(II)I"⟩, 43) := ⟨⟨by decide +kernel, by decide +kernel⟩, List.mem_of_getElem? (i := 959) (by decide +kernel), List.mem_of_getElem? (i := 1209) (by decide +kernel), List.mem_of_getElem? (i := 1210) (by decide +kernel)⟩
def lw_privs_3 : List (MethodName × Nat) := [(⟨"ArmsBookModel", "fail", "()I"⟩, 43), (⟨"ArmsBookModel", "end", "(I)I"⟩, 43), (⟨"ArmsBookModel", "lives", "(II)Z"⟩, 43), (⟨"ArmsBookModel", "isChild", "(II)Z"⟩, 43), (⟨"ArmsBookModel", "rootOf", "(II)I"⟩, 43), (⟨"ArmsBookModel", "own", "(II)I"⟩, 43), (⟨"ArmsBookModel", "armsOf", "(II)I"⟩, 43), (⟨"ArmsBookModel", "stepsOf", "(II)I"⟩, 43), (⟨"ArmsBookModel", "gradeOf", "(II)I"⟩, 43), (⟨"ArmsBookModel", "lines", "(I)V"⟩, 43), (⟨"ArmsBookModel", "isHeiress", "(II)Z"⟩, 43), (⟨"ArmsBookModel", "marksAbove", "(II)I"⟩, 43), (⟨"ArmsBookModel", "marksOf", "(II)I"⟩, 43), (⟨"ArmsBookModel", "placeOf", "(II)I"⟩, 43), (⟨"ArmsBookModel", "isAhead", "(II)Z"⟩, 43), (⟨"ArmsBookModel", "quartersOf", "(II)I"⟩, 43)]
theorem lw_r3 : ∀ q ∈ lw_privs_3, lw_okq q := List.forall_mem_cons.mpr ⟨lw_p32, List.forall_mem_cons.mpr ⟨lw_p33, List.forall_mem_cons.mpr ⟨lw_p34, List.forall_mem_cons.mpr ⟨lw_p35, List.forall_mem_cons.mpr ⟨lw_p36, List.forall_mem_cons.mpr ⟨lw_p37, List.forall_mem_cons.mpr ⟨lw_p38, List.forall_mem_cons.mpr ⟨lw_p39, List.forall_mem_cons.mpr ⟨lw_p40, List.forall_mem_cons.mpr ⟨lw_p41, List.forall_mem_cons.mpr ⟨lw_p42, List.forall_mem_cons.mpr ⟨lw_p43, List.forall_mem_cons.mpr ⟨lw_p44, List.forall_mem_cons.mpr ⟨lw_p45, List.forall_mem_cons.mpr ⟨lw_p46, List.forall_mem_cons.mpr ⟨lw_p47, fun _ h => absurd h List.not_mem_nil⟩⟩⟩⟩⟩⟩⟩⟩⟩⟩⟩⟩⟩⟩⟩⟩
theorem lw_p48 : lw_okq (⟨"ArmsBookModel", "put", "(II)V"⟩, 43) := ⟨⟨by decide +kernel, by decide +kernel⟩, List.mem_of_getElem? (i := 959) (by decide +kernel), List.mem_of_getElem? (i := 1213) (by decide +kernel), List.mem_of_getElem? (i := 1214) (by decide +kernel)⟩
theorem lw_p49 : lw_okq (⟨"ArmsBookModel", "brings", "(II)Z"⟩, 43) := ⟨⟨by decide +kernel, by decide +kernel⟩, List.mem_of_getElem? (i := 959) (by decide +kernel), List.mem_of_getElem? (i := 1217) (by decide +kernel), List.mem_of_getElem? (i := 1218) (by decide +kernel)⟩
theorem lw_p50 : lw_okq (⟨"ArmsBookModel", "rivalsOf", "(II)I"⟩, 43) := ⟨⟨by decide +kernel, by decide +kernel⟩, List.mem_of_getElem? (i := 959) (by decide +kernel), List.mem_of_getElem? (i := 1225) (by decide +kernel), List.mem_of_getElem? (i := 1226) (by decide +kernel)⟩
theorem lw_p51 : lw_okq (⟨"ArmsBookModel", "up", "(I)V"⟩, 43) := ⟨⟨by decide +kernel, by decide +kernel⟩, List.mem_of_getElem? (i := 959) (by decide +kernel), List.mem_of_getElem? (i := 1233) (by decide +kernel), List.mem_of_getElem? (i := 1234) (by decide +kernel)⟩
theorem lw_p52 : lw_okq (⟨"ArmsBookModel", "readText", "()V"⟩, 43) := ⟨⟨by decide +kernel, by decide +kernel⟩, List.mem_of_getElem? (i := 959) (by decide +kernel), List.mem_of_getElem? (i := 1245) (by decide +kernel), List.mem_of_getElem? (i := 1246) (by decide +kernel)⟩
theorem lw_p53 : lw_okq (⟨"ArmsBookModel", "step", "()V"⟩, 43) := ⟨⟨by decide +kernel, by decide +kernel⟩, List.mem_of_getElem? (i := 959) (by decide +kernel), List.mem_of_getElem? (i := 1249) (by decide +kernel), List.mem_of_getElem? (i := 1250) (by decide +kernel)⟩
theorem lw_p54 : lw_okq (⟨"ArmsBookModel", "byteAt", "(I)I"⟩, 43) := ⟨⟨by decide +kernel, by decide +kernel⟩, List.mem_of_getElem? (i := 959) (by decide +kernel), List.mem_of_getElem? (i := 1253) (by decide +kernel), List.mem_of_getElem? (i := 1254) (by decide +kernel)⟩
theorem lw_p55 : lw_okq (⟨"ArmsBookModel", "isWord", "(Ljava/lang/String;)Z"⟩, 43) := ⟨⟨by decide +kernel, by decide +kernel⟩, List.mem_of_getElem? (i := 959) (by decide +kernel), List.mem_of_getElem? (i := 1264) (by decide +kernel), List.mem_of_getElem? (i := 1265) (by decide +kernel)⟩
theorem lw_p56 : lw_okq (⟨"ArmsBookModel", "wrong", "(I)V"⟩, 43) := ⟨⟨by decide +kernel, by decide +kernel⟩, List.mem_of_getElem? (i := 959) (by decide +kernel), List.mem_of_getElem? (i := 1272) (by decide +kernel), List.mem_of_getElem? (i := 1273) (by decide +kernel)⟩
theorem lw_p57 : lw_okq (⟨"ArmsBookModel", "readExpression", "(I)V"⟩, 43) := ⟨⟨by decide +kernel, by decide +kernel⟩, List.mem_of_getElem? (i := 959) (by decide +kernel), List.mem_of_getElem? (i := 1276) (by decide +kernel), List.mem_of_getElem? (i := 1277) (by decide +kernel)⟩
theorem lw_p58 : lw_okq (⟨"ArmsBookModel", "isSign", "(I)Z"⟩, 43) := ⟨⟨by decide +kernel, by decide +kernel⟩, List.mem_of_getElem? (i := 959) (by decide +kernel), List.mem_of_getElem? (i := 1280) (by decide +kernel), List.mem_of_getElem? (i := 1281) (by decide +kernel)⟩
theorem lw_p59 : lw_okq (⟨"ArmsBookModel", "readTest", "(I)V"⟩, 43) := ⟨⟨by decide +kernel, by decide +kernel⟩, List.mem_of_getElem? (i := 959) (by decide +kernel), List.mem_of_getElem? (i := 1284) (by decide +kernel), List.mem_of_getElem? (i := 1285) (by decide +kernel)⟩
theorem lw_p60 : lw_okq (⟨"ArmsBookModel", "readSum", "(I)V"⟩, 43) := ⟨⟨by decide +kernel, by decide +kernel⟩, List.mem_of_getElem? (i := 959) (by decide +kernel), List.mem_of_getElem? (i := 1289) (by decide +kernel), List.mem_of_getElem? (i := 1290) (by decide +kernel)⟩
theorem lw_p61 : lw_okq (⟨"ArmsBookModel", "readPart", "(I)V"⟩, 43) := ⟨⟨by decide +kernel, by decide +kernel⟩, List.mem_of_getElem? (i := 959) (by decide +kernel), List.mem_of_getElem? (i := 1293) (by decide +kernel), List.mem_of_getElem? (i := 1294) (by decide +kernel)⟩
theorem lw_p62 : lw_okq (⟨"ArmsBookModel", "emit", "(I)V"⟩, 43) := ⟨⟨by decide +kernel, by decide +kernel⟩, List.mem_of_getElem? (i := 959) (by decide +kernel), List.mem_of_getElem? (i := 1297) (by decide +kernel), List.mem_of_getElem? (i := 1298) (by decide +kernel)⟩
theorem lw_p63 : lw_okq (⟨"ArmsBookModel", "ruled", "(III)I"⟩, 43) := ⟨⟨by decide +kernel, by decide +kernel⟩, List.mem_of_getElem? (i := 959) (by decide +kernel), List.mem_of_getElem? (i := 1311) (by decide +kernel), List.mem_of_getElem? (i := 1312) (by decide +kernel)⟩
def lw_privs_4 : List (MethodName × Nat) := [(⟨"ArmsBookModel", "put", "(II)V"⟩, 43), (⟨"ArmsBookModel", "brings", "(II)Z"⟩, 43), (⟨"ArmsBookModel", "rivalsOf", "(II)I"⟩, 43), (⟨"ArmsBookModel", "up", "(I)V"⟩, 43), (⟨"ArmsBookModel", "readText", "()V"⟩, 43), (⟨"ArmsBookModel", "step", "()V"⟩, 43), (⟨"ArmsBookModel", "byteAt", "(I)I"⟩, 43), (⟨"ArmsBookModel", "isWord", "(Ljava/lang/String;)Z"⟩, 43), (⟨"ArmsBookModel", "wrong", "(I)V"⟩, 43), (⟨"ArmsBookModel", "readExpression", "(I)V"⟩, 43), (⟨"ArmsBookModel", "isSign", "(I)Z"⟩, 43), (⟨"ArmsBookModel", "readTest", "(I)V"⟩, 43), (⟨"ArmsBookModel", "readSum", "(I)V"⟩, 43), (⟨"ArmsBookModel", "readPart", "(I)V"⟩, 43), (⟨"ArmsBookModel", "emit", "(I)V"⟩, 43), (⟨"ArmsBookModel", "ruled", "(III)I"⟩, 43)]
theorem lw_r4 : ∀ q ∈ lw_privs_4, lw_okq q := List.forall_mem_cons.mpr ⟨lw_p48, List.forall_mem_cons.mpr ⟨lw_p49, List.forall_mem_cons.mpr ⟨lw_p50, List.forall_mem_cons.mpr ⟨lw_p51, List.forall_mem_cons.mpr ⟨lw_p52, List.forall_mem_cons.mpr ⟨lw_p53, List.forall_mem_cons.mpr ⟨lw_p54, List.forall_mem_cons.mpr ⟨lw_p55, List.forall_mem_cons.mpr ⟨lw_p56, List.forall_mem_cons.mpr ⟨lw_p57, List.forall_mem_cons.mpr ⟨lw_p58, List.forall_mem_cons.mpr ⟨lw_p59, List.forall_mem_cons.mpr ⟨lw_p60, List.forall_mem_cons.mpr ⟨lw_p61, List.forall_mem_cons.mpr ⟨lw_p62, List.forall_mem_cons.mpr ⟨lw_p63, fun _ h => absurd h List.not_mem_nil⟩⟩⟩⟩⟩⟩⟩⟩⟩⟩⟩⟩⟩⟩⟩⟩
theorem lw_p64 : lw_okq (⟨"ArmsBookModel", "told", "(IIII)I"⟩, 43) := ⟨⟨by decide +kernel, by decide +kernel⟩, List.mem_of_getElem? (i := 959) (by decide +kernel), List.mem_of_getElem? (i := 1315) (by decide +kernel), List.mem_of_getElem? (i := 1316) (by decide +kernel)⟩
theorem lw_p65 : lw_okq (⟨"ArmsBookModel", "value", "(III)I"⟩, 43) := ⟨⟨by decide +kernel, by decide +kernel⟩, List.mem_of_getElem? (i := 959) (by decide +kernel), List.mem_of_getElem? (i := 1319) (by decide +kernel), List.mem_of_getElem? (i := 1320) (by decide +kernel)⟩
theorem lw_p66 : lw_okq (⟨"ArmsBookModel", "takenFrom", "(I)I"⟩, 43) := ⟨⟨by decide +kernel, by decide +kernel⟩, List.mem_of_getElem? (i := 959) (by decide +kernel), List.mem_of_getElem? (i := 1338) (by decide +kernel), List.mem_of_getElem? (i := 1339) (by decide +kernel)⟩
theorem lw_p67 : lw_okq (⟨"ArmsBookModel", "unlike", "(II)I"⟩, 43) := ⟨⟨by decide +kernel, by decide +kernel⟩, List.mem_of_getElem? (i := 959) (by decide +kernel), List.mem_of_getElem? (i := 1342) (by decide +kernel), List.mem_of_getElem? (i := 1343) (by decide +kernel)⟩
def lw_privs_5 : List (MethodName × Nat) := [(⟨"ArmsBookModel", "told", "(IIII)I"⟩, 43), (⟨"ArmsBookModel", "value", "(III)I"⟩, 43), (⟨"ArmsBookModel", "takenFrom", "(I)I"⟩, 43), (⟨"ArmsBookModel", "unlike", "(II)I"⟩, 43)]
theorem lw_r5 : ∀ q ∈ lw_privs_5, lw_okq q := List.forall_mem_cons.mpr ⟨lw_p64, List.forall_mem_cons.mpr ⟨lw_p65, List.forall_mem_cons.mpr ⟨lw_p66, List.forall_mem_cons.mpr ⟨lw_p67, fun _ h => absurd h List.not_mem_nil⟩⟩⟩⟩
def lw_privs : List (MethodName × Nat) := lw_privs_1 ++ (lw_privs_2 ++ (lw_privs_3 ++ (lw_privs_4 ++ (lw_privs_5))))
def lw_tbl : List Cond := k2_sels lw_privs ++ tables_1
theorem lw_privs_ok : ∀ q ∈ lw_privs, lw_okq q := by
  show ∀ q ∈ lw_privs_1 ++ (lw_privs_2 ++ (lw_privs_3 ++ (lw_privs_4 ++ (lw_privs_5)))), lw_okq q
  exact List.forall_mem_append.mpr ⟨lw_r1, List.forall_mem_append.mpr ⟨lw_r2, List.forall_mem_append.mpr ⟨lw_r3, List.forall_mem_append.mpr ⟨lw_r4, lw_r5⟩⟩⟩⟩
-- ===== end of PART A; then your names; then what follows =====
end
section
/-! ===== BEGIN words of one list among another's, by their places ===== -/
theorem goodIn_r {big : List Cond} (ws : List Cond) (ps : List Nat) (hp : ws = ps.filterMap (fun i => big[i]?)) (h : ws.all goodWord = true) : GoodIn big ws := by
  intro w hw
  have h1 := List.all_eq_true.mp h w hw
  rw [hp] at hw
  obtain ⟨i, -, hi⟩ := List.mem_filterMap.mp hw
  have hm : w ∈ big := by first | exact List.mem_of_getElem? hi | exact List.getElem?_mem hi
  exact ⟨hm, good_of_word h1⟩
theorem goodIn_app {big a b : List Cond} (ha : GoodIn big a) (hb : GoodIn big b) : GoodIn big (a ++ b) := fun w h => (List.mem_append.mp h).elim (ha w) (hb w)
theorem goodIn_ca {big a b : List Cond} {c : Cond} (ha : GoodIn big (c :: a)) (hb : GoodIn big b) : GoodIn big (c :: (a ++ b)) := fun w h => (List.mem_cons.mp h).elim (fun e => ha w (List.mem_cons.mpr (Or.inl e))) (fun h => (List.mem_append.mp h).elim (fun h => ha w (List.mem_cons.mpr (Or.inr h))) (hb w))
theorem goodIn_sub {big ws : List Cond} (hm : ∀ w ∈ ws, w ∈ big) (h : ws.all goodWord = true) : GoodIn big ws := fun w hw => ⟨hm w hw, good_of_word (List.all_eq_true.mp h w hw)⟩
/-! ===== END ===== -/

/-! ===== BEGIN exceptions that leave a method, and their catching by the caller (launches without stack traces) ===== -/
section VXA
/-! The laws vx_back, vx_callV, vx_callS, vx_callSW, vx_throw0, vx_throwS follow proofs of the library, with one case more: JvmDerived/Free/Laws.lean (Back.of_free), Shelf42/LK1.lean (callV, callS), Shelf/KitTraced.lean (Bundle.throwNew0V, Bundle.throwNewS). -/
/-- where a method has thrown q: the class by its name, the cell, what was written, the world -/
def vx_T (XC : String → State → State → Prop) (st : State) (q : Addr) (t : State) (mc ms : Nat) (free : Addr → Prop) : Prop :=
  ∃ (E : String) (ce : Cell) (L : List Loc), XC E st t ∧ t.heap[q]? = some ce ∧ ce.vm = .none ∧ st.vm.findClass E = some ce.cls ∧ st.WarmedH t.vm ∧ st.sameButNew ({ t with vm := st.vm } : State) L mc ms ∧ ∀ z ∈ L, free z.base
def vx_Q (Qc : Array Value → State → Outcome → State → Prop) (XC : String → State → State → Prop) (mc ms : Nat) (free : Addr → Prop) : Array Value → State → Outcome → State → Prop := fun a st o t =>
  (Qc a st o t ∧ ∃ L, FrameEnd st o t L mc ms ∧ ∀ q ∈ L, free q.base) ∨ ∃ q, o = .threw q ∧ vx_T XC st q t mc ms free
/-- a callee that returns or throws -/
def vx_Met (l : Launch) (y : MethodName) (ws : List Cond) (rm : Room) (Pc : Array Value → State → Prop) (Qc : Array Value → State → Outcome → State → Prop) (XC : String → State → State → Prop) (mc ms : Nat) (free : Addr → Prop) : Prop :=
  MetFree l y (headSpec ws rm) Pc (fun _ _ _ _ _ => True) (vx_Q Qc XC mc ms free)
def vx_Post (XC : String → State → State → Prop) (mc ms : Nat) (free : Addr → Prop) : Pt → Array Value → Addr → Pt → Prop := fun A a q B =>
  ∃ (g : JFrame) (mk : MethodId) (t : State) (L : List Loc) (E : String) (ce : Cell), B.U.heap = t.heap ∧ B.U.vm = t.vm ∧ XC E (A.U.calling g mk a) t ∧ t.heap[q]? = some ce ∧ ce.vm = .none ∧ A.U.vm.findClass E = some ce.cls ∧ B.locs = A.locs ++ L ∧ (∀ z ∈ L, free z.base) ∧ B.cells = A.cells + mc ∧ B.slots = A.slots + ms
def vx_Back (l : Launch) (R : Room) (p : Program) (e : Env) (below : List Frame) (s : State) (sargs : Array Value) (y : MethodName) (len W9 : Nat)
    (Pre : Pt → Array Value → Prop) (Post : Pt → Array Value → Option Value → Pt → Prop) (PostX : Pt → Array Value → Addr → Pt → Prop) : Prop :=
  ∀ (m : MethodId) (meth : Method) (c : Code) (A : Pt) (g : JFrame) (ig : Instr) (mk : MethodId) (a : Array Value),
    Stand p l e R s m sargs below meth c A.U A.locs A.cells A.slots → g.method = m → g.locals.size = c.maxLocals → decode c.code g.pc = .ok (ig, len) →
    2 * g.monitorRoom + (g.stack.map fun v => v.category).sum ≤ W9 → A.U.methodNamed? y = some mk → Pre A a →
    (∃ (v : Option Value) (B : Pt), Stand p l e R s m sargs below meth c B.U B.locs B.cells B.slots ∧ Post A a v B ∧
      Steps p.tables e below (doInvoke e (A.U.setTop g) [] mk a).1 (B.U.setTop { g with pc := g.pc + len, stack := v.toList ++ g.stack })) ∨
    (∃ (q : Addr) (B : Pt), Stand p l e R s m sargs below meth c B.U B.locs B.cells B.slots ∧ PostX A a q B ∧
      Steps p.tables e below (doInvoke e (A.U.setTop g) [] mk a).1 ((B.U.setTop g).pushFrame (.throwing q)))
section Payer
variable {l : Launch} {R : Room} {p : Program} {e : Env} {below : List Frame} {s : State} {sargs : Array Value} {y : MethodName} {len W9 : Nat}
theorem vx_back {ws : List Cond} {rm : Room} {Pc : Array Value → State → Prop} {Qc : Array Value → State → Outcome → State → Prop} {XC : String → State → State → Prop} {mc ms : Nat} {free : Addr → Prop} {bytes : ByteArray} {maxL : Nat} {ret : Option FieldType}
    (hM : vx_Met l y ws rm Pc Qc XC mc ms free) (hblind : FrameBlind Pc) (hrc : rm.cells = mc) (hrs : rm.slots = ms)
    (hframes : rm.frames + 1 ≤ R.frames) (hlocals : W9 + (maxL + 11) + rm.locals ≤ R.locals)
    (hws : ∀ w ∈ ws, ∀ a' U, s.WarmedH U.vm → w.before a' U = true) (hcode : Cond.code y bytes maxL ret ∈ ws) (hinit : ∀ a' U, s.WarmedH U.vm → (Cond.initialized y.cls).before a' U = true) :
    vx_Back l R p e below s sargs y len W9 (PreOf R mc ms Pc) (PostOf Qc mc ms free) (vx_Post XC mc ms free) := by
  intro m meth c A g ig mk a X hg hsize hdg hW hn hp
  have h1 : (headSpec ws rm).pre.before a A.U = true := atoms_intro fun w hw => hws w hw _ _ X.warmed
  have h2 : (Cond.code y bytes maxL ret).before a A.U = true := hws _ hcode _ _ X.warmed
  have h3 : (Cond.initialized y.cls).before a A.U = true := hinit _ _ X.warmed
  have h4 : A.cells + (headSpec ws rm).room.cells ≤ R.cells := by rw [show (headSpec ws rm).room.cells = mc from hrc]; exact hp.1
  have h5 : A.slots + (headSpec ws rm).room.slots ≤ R.slots := by rw [show (headSpec ws rm).room.slots = ms from hrs]; exact hp.2.1
  have hPc : Pc a (A.U.calling g mk a) := hblind _ _ _ _ hp.2.2
  obtain ⟨U, Ls, c0, s0⟩ := A
  dsimp only [Pt.U, Pt.locs, Pt.cells, Pt.slots] at h1 h2 h3 h4 h5 X hn hPc ⊢
  obtain ⟨methY, cY, hmY, hcY, -, hlY, -, -, -, -⟩ := Cond.code_spec hn h2
  obtain ⟨kY, hkY, -⟩ := className_of_methodNamed hn
  have hinitY : kY.init = .initialized := Cond.initialized_spec (findClass_of_methodNamed hn) hkY h3
  have h : At U g.method c below := by rw [hg]; exact X.here
  have hlocals9 : W9 + (maxL + 11) + (headSpec ws rm).room.locals ≤ R.locals := hlocals
  have happ : (headSpec ws rm).appliesLoose y e.platform (U.calling g mk a) = true :=
    Spec.appliesLoose_calling (g := g) h hdg hn hkY hinitY
      (X.room_calling (g := g) (R' := (headSpec ws rm).room) hsize hmY hcY hframes (by rw [hlY]; omega) h4 h5) h1
  obtain ⟨mid, hmid⟩ := h.above
  have hfr : (U.setTop g).frames = (.java g :: mid) ++ below := by rw [State.frames_setTop' g h.top, hmid]; rfl
  obtain ⟨o, s₂, hsteps, -, hend, hq⟩ := Steps.callFree hM p X.admits X.cas X.clock (acts := []) hfr happ hPc trivial
  have hq' : vx_Q Qc XC mc ms free a (U.calling g mk a) o s₂ := hq
  rw [State.frames_setTop' g h.top] at hend
  obtain ⟨g₀, hg0⟩ := Option.isSome_iff_exists.mp h.top
  obtain ⟨r, hr⟩ := State.topJava?_eq_some.mp hg0
  have hr' : (({ U with heap := s₂.heap, slotsUsed := s₂.slotsUsed } : State).setVm s₂.vm).frames = .java g₀ :: r := hr
  rcases hq' with ⟨hqc, L, hfe, hL⟩ | ⟨q, rfl, E, ce, L, hx, hce, hcv, hcl, hW₂, hsm, hL⟩
  · obtain ⟨⟨v, rfl⟩, hW₂, e2, q2, q3, q4, q5, q6⟩ := id hfe
    have e3 : s₂ = ({ (U.calling g mk a).setFrames s₂.frames with heap := s₂.heap, slotsUsed := s₂.slotsUsed } : State).setVm s₂.vm := by
      have : s₂ = ({ s₂ with vm := (U.calling g mk a).vm } : State).setVm s₂.vm := rfl
      rw [e2] at this
      exact this
    obtain ⟨c₂, i₂, len₂, hc₂, hd₂, hf₂⟩ := hend
    have hW' : U.WarmedH s₂.vm := hW₂
    have hcc : c₂ = c := by
      have h1 : s₂.code? g.method = U.code? g.method := by
        rw [State.code?_eq, State.code?_eq, hW'.alike.method?]
      exact Option.some.inj (hc₂.symm.trans (h1.trans h.code))
    subst hcc
    have hlen : len₂ = len := by rw [hdg] at hd₂; cases hd₂; rfl
    subst hlen
    have hs₂ : s₂ = (({ U with heap := s₂.heap, slotsUsed := s₂.slotsUsed } : State).setVm s₂.vm).setTop { g with pc := g.pc + len₂, stack := v.toList ++ g.stack } := by
      refine e3.trans ?_
      rw [hf₂, State.calling_eq h.top, State.setFrames_setFrames, State.setTop_of_frames _ hr', hr]
      rfl
    have hsame : U.sameButNew ({ U with heap := s₂.heap, slotsUsed := s₂.slotsUsed } : State) L mc ms := by
      refine ⟨?_, q2, q3, q4, q5, q6⟩
      obtain ⟨t, ht, -⟩ := State.frames_cons hr
      show ({ U with heap := s₂.heap, slotsUsed := s₂.slotsUsed } : State) = { U.setFrames U.frames with heap := s₂.heap, slotsUsed := s₂.slotsUsed }
      rw [State.setFrames_self ht]
    subst hg
    refine Or.inl ⟨v, ⟨(({ U with heap := s₂.heap, slotsUsed := s₂.slotsUsed } : State).setVm s₂.vm), Ls ++ L, c0 + mc, s0 + ms⟩,
      ⟨X.admits, X.cas, X.clock, X.frames, X.room, X.hears, X.method, X.code, (X.here.setHeapUsed s₂.heap s₂.slotsUsed).setVm hW'.alike, X.tail, State.WarmedH.trans X.warmed hW', X.limits, X.bytes, X.same.trans (hsame.setVm s.vm)⟩,
      ⟨g, mk, s₂, L, rfl, rfl, hqc, rfl, hL, rfl, rfl⟩, ?_⟩
    show Steps p.tables e below _ ((({ U with heap := s₂.heap, slotsUsed := s₂.slotsUsed } : State).setVm s₂.vm).setTop { g with pc := g.pc + len₂, stack := v.toList ++ g.stack })
    rw [← hs₂]
    exact hsteps
  · obtain ⟨e2, q2, q3, q4, q5, q6⟩ := id hsm
    have e3 : s₂ = ({ (U.calling g mk a).setFrames s₂.frames with heap := s₂.heap, slotsUsed := s₂.slotsUsed } : State).setVm s₂.vm := by
      have : s₂ = ({ s₂ with vm := (U.calling g mk a).vm } : State).setVm s₂.vm := rfl
      rw [e2] at this
      exact this
    have hf₂ : s₂.frames = .throwing q :: .java g :: U.frames.tail := hend
    have hW' : U.WarmedH s₂.vm := hW₂
    have hs₂ : s₂ = ((({ U with heap := s₂.heap, slotsUsed := s₂.slotsUsed } : State).setVm s₂.vm).setTop g).pushFrame (.throwing q) := by
      refine e3.trans ?_
      rw [hf₂, State.calling_eq h.top, State.setFrames_setFrames, State.pushFrame, State.frames_setTop _ hr', State.setTop_of_frames _ hr', State.setFrames_setFrames, hr]
      rfl
    have hsame : U.sameButNew ({ U with heap := s₂.heap, slotsUsed := s₂.slotsUsed } : State) L mc ms := by
      refine ⟨?_, q2, q3, q4, q5, q6⟩
      obtain ⟨t, ht, -⟩ := State.frames_cons hr
      show ({ U with heap := s₂.heap, slotsUsed := s₂.slotsUsed } : State) = { U.setFrames U.frames with heap := s₂.heap, slotsUsed := s₂.slotsUsed }
      rw [State.setFrames_self ht]
    subst hg
    refine Or.inr ⟨q, ⟨(({ U with heap := s₂.heap, slotsUsed := s₂.slotsUsed } : State).setVm s₂.vm), Ls ++ L, c0 + mc, s0 + ms⟩,
      ⟨X.admits, X.cas, X.clock, X.frames, X.room, X.hears, X.method, X.code, (X.here.setHeapUsed s₂.heap s₂.slotsUsed).setVm hW'.alike, X.tail, State.WarmedH.trans X.warmed hW', X.limits, X.bytes, X.same.trans (hsame.setVm s.vm)⟩,
      ⟨g, mk, s₂, L, E, ce, rfl, rfl, hx, hce, hcv, hcl, rfl, hL, rfl, rfl⟩, ?_⟩
    show Steps p.tables e below _ (((({ U with heap := s₂.heap, slotsUsed := s₂.slotsUsed } : State).setVm s₂.vm).setTop g).pushFrame (.throwing q))
    rw [← hs₂]
    exact hsteps
end Payer
section Calls
variable {p : Program} {l : Launch} {e : Env} {R : Room} {s : State} {m : MethodId} {args : Array Value} {below : List Frame} {meth : Method} {c : Code} {T : State} {locs : List Loc} {cells slots : Nat}
theorem vx_callV (X : Stand p l e R s m args below meth c T locs cells slots) (hexec : p.tables.exec = Jvm.exec) {own C : String} {index : Nat} {y : MethodName} {bytes : ByteArray} {maxL : Nat} {ret : Option FieldType}
    (hown : s.vm.findClass own = some m.cls) (hlink : (Cond.methodLink own index y).before args s = true) (hinst : (Cond.instanceMethod y).before args s = true) (hsel : (Cond.selects C y y).before args s = true)
    (hcode : (Cond.code y bytes maxL ret).before args s = true) (hy : y.cls ≠ "java/lang/invoke/MethodHandle" ∧ y.cls ≠ "java/lang/invoke/VarHandle")
    {W9 : Nat} {Pre : Pt → Array Value → Prop} {Post : Pt → Array Value → Option Value → Pt → Prop} {PostX : Pt → Array Value → Addr → Pt → Prop} (hK : vx_Back l R p e below s args y 3 W9 Pre Post PostX)
    {b : Addr} {cellB : Cell} (hcell : T.heap[b]? = some cellB) (hobj : cellB.vm.isStatics = false) (hcls : s.vm.findClass C = some cellB.cls)
    {g : JFrame} (hg : g.method = m) (hsize : g.locals.size = c.maxLocals) {argsL rest : List Value} (hlen : ∀ sig, parseMethodDescriptor y.desc = some sig → argsL.length = sig.parameters.length)
    (hstack : g.stack = argsL.reverse ++ .ref b :: rest) (hW : 2 * g.monitorRoom + (rest.map fun v => v.category).sum ≤ W9) (hdg : decode c.code g.pc = .ok (.invokevirtual index, 3))
    (hpre : ∀ vm₁, s.WarmedH vm₁ → Pre ⟨T.setVm vm₁, locs, cells, slots⟩ (Value.ref b :: argsL).toArray) :
    (∃ (v : Option Value) (vm₁ : Vm) (B : Pt), s.WarmedH vm₁ ∧ Stand p l e R s m args below meth c B.U B.locs B.cells B.slots ∧ Post ⟨T.setVm vm₁, locs, cells, slots⟩ (Value.ref b :: argsL).toArray v B ∧
      ∀ target, Steps p.tables e below (B.U.setTop { g with pc := g.pc + 3, stack := v.toList ++ rest }) target → Steps p.tables e below (T.setTop g) target) ∨
    (∃ (q : Addr) (vm₁ : Vm) (B : Pt), s.WarmedH vm₁ ∧ Stand p l e R s m args below meth c B.U B.locs B.cells B.slots ∧ PostX ⟨T.setVm vm₁, locs, cells, slots⟩ (Value.ref b :: argsL).toArray q B ∧
      Steps p.tables e below (T.setTop g) ((B.U.setTop { g with stack := rest }).pushFrame (.throwing q))) := by
  obtain ⟨mk, methM, hnamed, hmethM, hstM, habM⟩ := Cond.instanceMethod_spec hinst
  obtain ⟨methM', cM, hmethM', -, -, -, -, -, -, hsigM⟩ := Cond.code_spec hnamed hcode
  cases hmethM.symm.trans hmethM'
  obtain ⟨c2, r2, m2, q1, q2, q3, q4, kP, hkP, hkPi⟩ := Cond.selects_spec hsel
  cases hcls.symm.trans q1
  cases (State.methodFound?_of_named hnamed hy).symm.trans q2
  cases hnamed.symm.trans q3
  have hselP : selectMethod e.platform s.vm cellB.cls mk = .method mk := by rw [Launch.admits_selectMethod X.admits]; exact q4
  obtain ⟨vm₁, X₁, hstep₁⟩ := X.invokevirtual hexec hown hlink hnamed hmethM hstM hkP hkPi hy (a := b) (cell := cellB) hcell
    (fun z h => by rw [h] at hobj; cases hobj) hselP hmethM habM hkP hkPi (g := g) hg (argsL := argsL) (rest := rest) (hlen _ hsigM) hstack hdg
  rcases hK m meth c ⟨T.setVm vm₁, locs, cells, slots⟩ { g with stack := rest } (.invokevirtual index) mk (Value.ref b :: argsL).toArray X₁ hg hsize hdg hW (X₁.named hnamed) (hpre vm₁ X₁.warmed) with ⟨v, B, X', hpost, hsteps⟩ | ⟨q, B, X', hpost, hsteps⟩
  · exact Or.inl ⟨v, vm₁, B, X₁.warmed, X', hpost, fun target h => hstep₁ _ fun acts => by rw [doInvoke_state]; exact hsteps.trans h⟩
  · exact Or.inr ⟨q, vm₁, B, X₁.warmed, X', hpost, hstep₁ _ fun acts => by rw [doInvoke_state]; exact hsteps⟩
theorem vx_callS (X : Stand p l e R s m args below meth c T locs cells slots) (hexec : p.tables.exec = Jvm.exec) {own : String} {index : Nat} {y : MethodName} {bytes : ByteArray} {maxL : Nat} {ret : Option FieldType}
    (hown : s.vm.findClass own = some m.cls) (hlink : (Cond.methodLink own index y).before args s = true) (hstat : (Cond.static y).before args s = true) (hinit : (Cond.initialized y.cls).before args s = true)
    (hcode : (Cond.code y bytes maxL ret).before args s = true) (hy : y.cls ≠ "java/lang/invoke/MethodHandle" ∧ y.cls ≠ "java/lang/invoke/VarHandle")
    {W9 : Nat} {Pre : Pt → Array Value → Prop} {Post : Pt → Array Value → Option Value → Pt → Prop} {PostX : Pt → Array Value → Addr → Pt → Prop} (hK : vx_Back l R p e below s args y 3 W9 Pre Post PostX)
    {g : JFrame} (hg : g.method = m) (hsize : g.locals.size = c.maxLocals) {argsL rest : List Value} (hlen : ∀ sig, parseMethodDescriptor y.desc = some sig → argsL.length = sig.parameters.length)
    (hstack : g.stack = argsL.reverse ++ rest) (hW : 2 * g.monitorRoom + (rest.map fun v => v.category).sum ≤ W9) (hdg : decode c.code g.pc = .ok (.invokestatic index, 3))
    (hpre : ∀ vm₁, s.WarmedH vm₁ → Pre ⟨T.setVm vm₁, locs, cells, slots⟩ argsL.toArray) :
    (∃ (v : Option Value) (vm₁ : Vm) (B : Pt), s.WarmedH vm₁ ∧ Stand p l e R s m args below meth c B.U B.locs B.cells B.slots ∧ Post ⟨T.setVm vm₁, locs, cells, slots⟩ argsL.toArray v B ∧
      ∀ target, Steps p.tables e below (B.U.setTop { g with pc := g.pc + 3, stack := v.toList ++ rest }) target → Steps p.tables e below (T.setTop g) target) ∨
    (∃ (q : Addr) (vm₁ : Vm) (B : Pt), s.WarmedH vm₁ ∧ Stand p l e R s m args below meth c B.U B.locs B.cells B.slots ∧ PostX ⟨T.setVm vm₁, locs, cells, slots⟩ argsL.toArray q B ∧
      Steps p.tables e below (T.setTop g) ((B.U.setTop { g with stack := rest }).pushFrame (.throwing q))) := by
  obtain ⟨mk, hnamed⟩ := Cond.code_named hcode
  obtain ⟨methM, cM, hmethM, -, -, -, -, -, -, hsigM⟩ := Cond.code_spec hnamed hcode
  have hstatic : methM.isStatic = true := Cond.static_spec hnamed hmethM hstat
  obtain ⟨kP, hkP, -⟩ := className_of_methodNamed hnamed
  have hinitP : kP.init = .initialized := Cond.initialized_spec (findClass_of_methodNamed hnamed) hkP hinit
  obtain ⟨vm₁, X₁, hstep₁⟩ := X.invokestatic hexec hown hlink hnamed hmethM hstatic hkP hinitP hy (g := g) hg (argsL := argsL) (rest := rest) (hlen _ hsigM) hstack hdg
  rcases hK m meth c ⟨T.setVm vm₁, locs, cells, slots⟩ { g with stack := rest } (.invokestatic index) mk argsL.toArray X₁ hg hsize hdg hW (X₁.named hnamed) (hpre vm₁ X₁.warmed) with ⟨v, B, X', hpost, hsteps⟩ | ⟨q, B, X', hpost, hsteps⟩
  · exact Or.inl ⟨v, vm₁, B, X₁.warmed, X', hpost, fun target h => hstep₁ _ fun acts => by rw [doInvoke_state]; exact hsteps.trans h⟩
  · exact Or.inr ⟨q, vm₁, B, X₁.warmed, X', hpost, hstep₁ _ fun acts => by rw [doInvoke_state]; exact hsteps⟩
end Calls
theorem vx_cls {s : State} {T : State} {vm₁ : Vm} {E : String} {k : ClassId} (hW : s.WarmedH vm₁) (h : (T.setVm vm₁).vm.findClass E = some k) : s.vm.findClass E = some k := by
  have h1 : vm₁.findClass E = some k := h
  rw [hW.alike.findClass] at h1
  exact h1
/-- the method's frame g, with q thrown over it -/
def vx_W (p : Program) (l : Launch) (e : Env) (R : Room) (s : State) (m : MethodId) (args : Array Value) (below : List Frame) (meth : Method) (c : Code) (H : Heap) (locs : List Loc) (cells slots : Nat) (Q : State → Prop) (g : JFrame) (q : Addr) : Prop :=
  ∀ T : State, T.heap = H → Stand p l e R s m args below meth c T locs cells slots → ∃ t, Steps p.tables e below ((T.setTop g).pushFrame (.throwing q)) t ∧ Q t
def vx_Run (p : Program) (l : Launch) (e : Env) (R : Room) (s : State) (m : MethodId) (args : Array Value) (below : List Frame) (meth : Method) (c : Code) (H : Heap) (locs : List Loc) (cells slots mc ms : Nat) (g : JFrame) (rest : List Value) (Qa : State → Outcome → State → Prop) (XC : String → State → State → Prop) (free : Addr → Prop) : Prop :=
  ∀ T : State, T.heap = H → Stand p l e R s m args below meth c T locs cells slots →
    (∃ (v : Option Value) (st₀ t T' : State) (L : List Loc), st₀.heap = H ∧ Stand p l e R s m args below meth c T' (locs ++ L) (cells + mc) (slots + ms) ∧ (∀ q ∈ L, free q.base) ∧ T'.heap = t.heap ∧ T'.vm = t.vm ∧ Qa st₀ (.returned v) t ∧
      Goes p e below T g T' { g with pc := g.pc + 3, stack := v.toList ++ rest }) ∨
    (∃ (q : Addr) (st₀ t T' : State) (L : List Loc) (E : String) (ce : Cell), st₀.heap = H ∧ Stand p l e R s m args below meth c T' (locs ++ L) (cells + mc) (slots + ms) ∧ (∀ z ∈ L, free z.base) ∧ T'.heap = t.heap ∧ T'.vm = t.vm ∧ XC E st₀ t ∧ t.heap[q]? = some ce ∧ ce.vm = .none ∧ s.vm.findClass E = some ce.cls ∧
      Steps p.tables e below (T.setTop g) ((T'.setTop { g with stack := rest }).pushFrame (.throwing q)))
def vx_X {S : Type} (px : S → Prop) (B : String → S → State → Prop) (A : Nat → Prop) : String → State → State → Prop := fun E st t => ∃ u : S, px u ∧ B E u t ∧ va_F A st t
section Runs
variable {p : Program} {l : Launch} {e : Env} {R : Room} {s : State} {m : MethodId} {args : Array Value} {below : List Frame} {meth : Method} {c : Code} {H : Heap} {locs : List Loc} {cells slots : Nat}
variable {y : MethodName} {bytes cc : ByteArray} {maxL nL mc ms n index : Nat} {ret : Option FieldType} {ws : List Cond} {rm : Room} {Pc : Array Value → State → Prop} {Qc : Array Value → State → Outcome → State → Prop} {XC : String → State → State → Prop} {free : Addr → Prop} {Ts : List Cond} {own C : String} {b : Addr} {As rest : List Value} {g : JFrame}
theorem vx_callBack (cb : CallB R s args own index y bytes maxL ret ws rm mc ms n) (hM : vx_Met l y ws rm Pc Qc XC mc ms free) (hbl : FrameBlind Pc) : vx_Back l R p e below s args y 3 8 (PreOf R mc ms Pc) (PostOf Qc mc ms free) (vx_Post XC mc ms free) := by
  obtain ⟨hrc, hrs, hfr, hlo, hws, hcw, -, hini, -⟩ := cb
  exact vx_back (bytes := bytes) (maxL := maxL) (ret := ret) hM hbl hrc hrs hfr hlo hws hcw (fun a' U hW => word_at hW (Or.inl (by first | rfl | simp [Cond.onTables, Cond.keeps, Cond.steady])) hini)
theorem vx_runV (S : CallFix p m c cc nL s args Ts own) (hM : vx_Met l y ws rm Pc Qc XC mc ms free) (cw : CallW R s args own C index y bytes maxL ret ws rm mc ms n) (hp : PreV s H C b Pc As)
    (hg : g.method = m) (hn : As.length = n) (hsize : g.locals.size = nL) (hstack : g.stack = As.reverse ++ .ref b :: rest) (hW : 2 * g.monitorRoom + (rest.map fun v => v.category).sum ≤ 8) (hdg : decode cc g.pc = .ok (.invokevirtual index, 3)) (hf : cells + mc ≤ R.cells ∧ slots + ms ≤ R.slots) :
    vx_Run p l e R s m args below meth c H locs cells slots mc ms g rest (Qc (Value.ref b :: As).toArray) XC free := by
  have hK : vx_Back l R p e below s args y 3 8 (PreOf R mc ms Pc) (PostOf Qc mc ms free) (vx_Post XC mc ms free) := vx_callBack cw.1 hM hp.1
  obtain ⟨⟨-, -, -, -, -, -, hcode, -, hy, hlen, hl⟩, hin, hse⟩ := cw
  obtain ⟨hx, hb, hml, ho, -⟩ := S
  obtain ⟨-, ⟨cellB, hcB, hoB, hclB⟩, hPc⟩ := hp
  intro T hT X
  rcases vx_callV X hx (C := C) (bytes := bytes) (maxL := maxL) (ret := ret) ho hl hin hse hcode hy hK (by rw [hT]; exact hcB) hoB hclB hg (hsize.trans hml.symm) (argsL := As) (rest := rest) (fun sig h => hn.trans (hlen sig h)) hstack hW (by rw [hb]; exact hdg)
    (fun vm₁ hW₁ => ⟨hf.1, hf.2, hPc (T.setVm vm₁) hT hW₁⟩) with ⟨v, vm₁, ⟨U', l2, c2, s2⟩, hW₁, X', ⟨g', mk, t, L, e1, e2, hq, h1, hL, h2, h3⟩, st⟩ | ⟨q, vm₁, ⟨U', l2, c2, s2⟩, hW₁, X', ⟨g', mk, t, L, E, ce, e1, e2, hq, hce, hcv, hcl, h1, hL, h2, h3⟩, st⟩
  · dsimp only [Pt.U, Pt.locs, Pt.cells, Pt.slots] at X' e1 e2 h1 h2 h3 st
    subst h1; subst h2; subst h3
    exact Or.inl ⟨v, (T.setVm vm₁).calling g' mk (Value.ref b :: As).toArray, t, U', L, hT, X', hL, e1, e2, hq, st⟩
  · dsimp only [Pt.U, Pt.locs, Pt.cells, Pt.slots] at X' e1 e2 h1 h2 h3 st hcl
    subst h1; subst h2; subst h3
    exact Or.inr ⟨q, (T.setVm vm₁).calling g' mk (Value.ref b :: As).toArray, t, U', L, E, ce, hT, X', hL, e1, e2, hq, hce, hcv, vx_cls hW₁ hcl, st⟩
theorem vx_runS (S : CallFix p m c cc nL s args Ts own) (hM : vx_Met l y ws rm Pc Qc XC mc ms free) (cw : CallB R s args own index y bytes maxL ret ws rm mc ms n ∧ (Cond.static y).before args s = true) (hp : PreS s H Pc As)
    (hg : g.method = m) (hn : As.length = n) (hsize : g.locals.size = nL) (hstack : g.stack = As.reverse ++ rest) (hW : 2 * g.monitorRoom + (rest.map fun v => v.category).sum ≤ 8) (hdg : decode cc g.pc = .ok (.invokestatic index, 3)) (hf : cells + mc ≤ R.cells ∧ slots + ms ≤ R.slots) :
    vx_Run p l e R s m args below meth c H locs cells slots mc ms g rest (Qc As.toArray) XC free := by
  have hK : vx_Back l R p e below s args y 3 8 (PreOf R mc ms Pc) (PostOf Qc mc ms free) (vx_Post XC mc ms free) := vx_callBack cw.1 hM hp.1
  obtain ⟨⟨-, -, -, -, -, -, hcode, hini, hy, hlen, hl⟩, hstt⟩ := cw
  obtain ⟨hx, hb, hml, ho, -⟩ := S
  intro T hT X
  rcases vx_callS X hx (bytes := bytes) (maxL := maxL) (ret := ret) ho hl hstt hini hcode hy hK hg (hsize.trans hml.symm) (argsL := As) (rest := rest) (fun sig h => hn.trans (hlen sig h)) hstack hW (by rw [hb]; exact hdg)
    (fun vm₁ hW₁ => ⟨hf.1, hf.2, hp.2 (T.setVm vm₁) hT hW₁⟩) with ⟨v, vm₁, ⟨U', l2, c2, s2⟩, hW₁, X', ⟨g', mk, t, L, e1, e2, hq, h1, hL, h2, h3⟩, st⟩ | ⟨q, vm₁, ⟨U', l2, c2, s2⟩, hW₁, X', ⟨g', mk, t, L, E, ce, e1, e2, hq, hce, hcv, hcl, h1, hL, h2, h3⟩, st⟩
  · dsimp only [Pt.U, Pt.locs, Pt.cells, Pt.slots] at X' e1 e2 h1 h2 h3 st
    subst h1; subst h2; subst h3
    exact Or.inl ⟨v, (T.setVm vm₁).calling g' mk As.toArray, t, U', L, hT, X', hL, e1, e2, hq, st⟩
  · dsimp only [Pt.U, Pt.locs, Pt.cells, Pt.slots] at X' e1 e2 h1 h2 h3 st hcl
    subst h1; subst h2; subst h3
    exact Or.inr ⟨q, (T.setVm vm₁).calling g' mk As.toArray, t, U', L, E, ce, hT, X', hL, e1, e2, hq, hce, hcv, vx_cls hW₁ hcl, st⟩
end Runs
section Rows
variable {p : Program} {l : Launch} {e : Env} {R : Room} {s : State} {m : MethodId} {args : Array Value} {below : List Frame} {meth : Method} {c : Code} {H : Heap} {locs : List Loc} {cells slots : Nat} {Q : State → Prop}
variable {mc ms : Nat} {free : Addr → Prop} {A0 A1 : Nat → Prop} {H0 : Heap} {a : Array Value} {pc : Nat} {ls : Array Slot} {st0 rest : List Value}
theorem vx_keep {st₀ t T' : State} {L : List Loc} (h0 : st₀.heap = H) (e1 : T'.heap = t.heap) (hS : va_S A0 H0 H locs) (hA : ∀ q, q < H.size → A1 q → A0 q) (hf : ∀ q, free q → A0 q) (hL : ∀ q ∈ L, free q.base) (hF : va_F A1 st₀ t) :
    H.size ≤ T'.heap.size ∧ (∀ q : Nat, q < H.size → ¬ A1 q → T'.heap[q]? = H[q]?) ∧ va_S A0 H0 T'.heap (locs ++ L) := by
  obtain ⟨hz, hk⟩ := hF
  rw [h0] at hz hk
  exact ⟨by rw [e1]; exact hz, fun q h1 h2 => by rw [e1]; exact hk q h1 h2,
    ⟨Nat.le_trans hS.1 (by rw [e1]; exact hz), fun q h1 h2 => by rw [e1, hk q (Nat.lt_of_lt_of_le h1 hS.1) (fun z => h2 (hA q (Nat.lt_of_lt_of_le h1 hS.1) z))]; exact hS.2.1 q h1 h2, fun q hq => by
      rcases List.mem_append.mp hq with h | h
      · exact hS.2.2 q h
      · exact hf _ (hL q h)⟩⟩
theorem vx_calli {S SX : Type} {post : Int32 → S → Prop} {px : SX → Prop} {B : S → State → Prop} {BX : String → SX → State → Prop} {AX : Nat → Prop} (hr : vx_Run p l e R s m args below meth c H locs cells slots mc ms (F0 m pc ls st0) rest (va_Qi post B A1 a) (vx_X px BX AX) free) (hS : va_S A0 H0 H locs) (hA : ∀ q, q < H.size → A1 q → A0 q) (hf : ∀ q, free q → A0 q) (hAX : ∀ q, q < H.size → AX q → A0 q)
    (kx : ∀ (E : String) (ce : Cell) (q9 : Addr) (u : SX) (t : State) (H1 : Heap) (locs1 : List Loc), t.heap = H1 → s.vm.Alike t.vm → px u → BX E u t → H.size ≤ H1.size → (∀ q : Nat, q < H.size → ¬ AX q → H1[q]? = H[q]?) → va_S A0 H0 H1 locs1 → H1[q9]? = some ce → ce.vm = .none → s.vm.findClass E = some ce.cls → vx_W p l e R s m args below meth c H1 locs1 (cells + mc) (slots + ms) Q (F0 m pc ls rest) q9)
    (kk : ∀ (r : Int32) (u : S) (t : State) (H1 : Heap) (locs1 : List Loc), t.heap = H1 → s.vm.Alike t.vm → post r u → B u t → H.size ≤ H1.size → (∀ q : Nat, q < H.size → ¬ A1 q → H1[q]? = H[q]?) → va_S A0 H0 H1 locs1 → W p l e R s m args below meth c H1 locs1 (cells + mc) (slots + ms) Q (F0 m (pc + 3) ls (.int r :: rest))) : W p l e R s m args below meth c H locs cells slots Q (F0 m pc ls st0) := by
  intro T hT X
  rcases hr T hT X with ⟨v, st₀, t, T', L, h0, X', hL, e1, e2, ⟨⟨r, u, hv, hp, hb⟩, hF⟩, st⟩ | ⟨q, st₀, t, T', L, E, ce, h0, X', hL, e1, e2, ⟨u, hp, hb, hF⟩, hce, hcv, hcl, st⟩
  · cases hv
    obtain ⟨k1, k2, k3⟩ := vx_keep h0 e1 hS hA hf hL hF
    obtain ⟨t2, a1, b1⟩ := kk r u t T'.heap (locs ++ L) e1.symm (by rw [← e2]; exact X'.warmed.alike) hp hb k1 k2 k3 T' rfl X'
    exact ⟨t2, st t2 a1, b1⟩
  · obtain ⟨k1, k2, k3⟩ := vx_keep h0 e1 hS hAX hf hL hF
    obtain ⟨t2, a1, b1⟩ := kx E ce q u t T'.heap (locs ++ L) e1.symm (by rw [← e2]; exact X'.warmed.alike) hp hb k1 k2 k3 (by rw [e1]; exact hce) hcv hcl T' rfl X'
    exact ⟨t2, st.trans a1, b1⟩
theorem vx_calll {S SX : Type} {post : Int64 → S → Prop} {px : SX → Prop} {B : S → State → Prop} {BX : String → SX → State → Prop} {AX : Nat → Prop} (hr : vx_Run p l e R s m args below meth c H locs cells slots mc ms (F0 m pc ls st0) rest (va_Ql post B A1 a) (vx_X px BX AX) free) (hS : va_S A0 H0 H locs) (hA : ∀ q, q < H.size → A1 q → A0 q) (hf : ∀ q, free q → A0 q) (hAX : ∀ q, q < H.size → AX q → A0 q)
    (kx : ∀ (E : String) (ce : Cell) (q9 : Addr) (u : SX) (t : State) (H1 : Heap) (locs1 : List Loc), t.heap = H1 → s.vm.Alike t.vm → px u → BX E u t → H.size ≤ H1.size → (∀ q : Nat, q < H.size → ¬ AX q → H1[q]? = H[q]?) → va_S A0 H0 H1 locs1 → H1[q9]? = some ce → ce.vm = .none → s.vm.findClass E = some ce.cls → vx_W p l e R s m args below meth c H1 locs1 (cells + mc) (slots + ms) Q (F0 m pc ls rest) q9)
    (kk : ∀ (r : Int64) (u : S) (t : State) (H1 : Heap) (locs1 : List Loc), t.heap = H1 → s.vm.Alike t.vm → post r u → B u t → H.size ≤ H1.size → (∀ q : Nat, q < H.size → ¬ A1 q → H1[q]? = H[q]?) → va_S A0 H0 H1 locs1 → W p l e R s m args below meth c H1 locs1 (cells + mc) (slots + ms) Q (F0 m (pc + 3) ls (.long r :: rest))) : W p l e R s m args below meth c H locs cells slots Q (F0 m pc ls st0) := by
  intro T hT X
  rcases hr T hT X with ⟨v, st₀, t, T', L, h0, X', hL, e1, e2, ⟨⟨r, u, hv, hp, hb⟩, hF⟩, st⟩ | ⟨q, st₀, t, T', L, E, ce, h0, X', hL, e1, e2, ⟨u, hp, hb, hF⟩, hce, hcv, hcl, st⟩
  · cases hv
    obtain ⟨k1, k2, k3⟩ := vx_keep h0 e1 hS hA hf hL hF
    obtain ⟨t2, a1, b1⟩ := kk r u t T'.heap (locs ++ L) e1.symm (by rw [← e2]; exact X'.warmed.alike) hp hb k1 k2 k3 T' rfl X'
    exact ⟨t2, st t2 a1, b1⟩
  · obtain ⟨k1, k2, k3⟩ := vx_keep h0 e1 hS hAX hf hL hF
    obtain ⟨t2, a1, b1⟩ := kx E ce q u t T'.heap (locs ++ L) e1.symm (by rw [← e2]; exact X'.warmed.alike) hp hb k1 k2 k3 (by rw [e1]; exact hce) hcv hcl T' rfl X'
    exact ⟨t2, st.trans a1, b1⟩
theorem vx_callf {S SX : Type} {post : UInt32 → S → Prop} {px : SX → Prop} {B : S → State → Prop} {BX : String → SX → State → Prop} {AX : Nat → Prop} (hr : vx_Run p l e R s m args below meth c H locs cells slots mc ms (F0 m pc ls st0) rest (va_Qf post B A1 a) (vx_X px BX AX) free) (hS : va_S A0 H0 H locs) (hA : ∀ q, q < H.size → A1 q → A0 q) (hf : ∀ q, free q → A0 q) (hAX : ∀ q, q < H.size → AX q → A0 q)
    (kx : ∀ (E : String) (ce : Cell) (q9 : Addr) (u : SX) (t : State) (H1 : Heap) (locs1 : List Loc), t.heap = H1 → s.vm.Alike t.vm → px u → BX E u t → H.size ≤ H1.size → (∀ q : Nat, q < H.size → ¬ AX q → H1[q]? = H[q]?) → va_S A0 H0 H1 locs1 → H1[q9]? = some ce → ce.vm = .none → s.vm.findClass E = some ce.cls → vx_W p l e R s m args below meth c H1 locs1 (cells + mc) (slots + ms) Q (F0 m pc ls rest) q9)
    (kk : ∀ (r : UInt32) (u : S) (t : State) (H1 : Heap) (locs1 : List Loc), t.heap = H1 → s.vm.Alike t.vm → post r u → B u t → H.size ≤ H1.size → (∀ q : Nat, q < H.size → ¬ A1 q → H1[q]? = H[q]?) → va_S A0 H0 H1 locs1 → W p l e R s m args below meth c H1 locs1 (cells + mc) (slots + ms) Q (F0 m (pc + 3) ls (.float r :: rest))) : W p l e R s m args below meth c H locs cells slots Q (F0 m pc ls st0) := by
  intro T hT X
  rcases hr T hT X with ⟨v, st₀, t, T', L, h0, X', hL, e1, e2, ⟨⟨r, u, hv, hp, hb⟩, hF⟩, st⟩ | ⟨q, st₀, t, T', L, E, ce, h0, X', hL, e1, e2, ⟨u, hp, hb, hF⟩, hce, hcv, hcl, st⟩
  · cases hv
    obtain ⟨k1, k2, k3⟩ := vx_keep h0 e1 hS hA hf hL hF
    obtain ⟨t2, a1, b1⟩ := kk r u t T'.heap (locs ++ L) e1.symm (by rw [← e2]; exact X'.warmed.alike) hp hb k1 k2 k3 T' rfl X'
    exact ⟨t2, st t2 a1, b1⟩
  · obtain ⟨k1, k2, k3⟩ := vx_keep h0 e1 hS hAX hf hL hF
    obtain ⟨t2, a1, b1⟩ := kx E ce q u t T'.heap (locs ++ L) e1.symm (by rw [← e2]; exact X'.warmed.alike) hp hb k1 k2 k3 (by rw [e1]; exact hce) hcv hcl T' rfl X'
    exact ⟨t2, st.trans a1, b1⟩
theorem vx_calld {S SX : Type} {post : UInt64 → S → Prop} {px : SX → Prop} {B : S → State → Prop} {BX : String → SX → State → Prop} {AX : Nat → Prop} (hr : vx_Run p l e R s m args below meth c H locs cells slots mc ms (F0 m pc ls st0) rest (va_Qd post B A1 a) (vx_X px BX AX) free) (hS : va_S A0 H0 H locs) (hA : ∀ q, q < H.size → A1 q → A0 q) (hf : ∀ q, free q → A0 q) (hAX : ∀ q, q < H.size → AX q → A0 q)
    (kx : ∀ (E : String) (ce : Cell) (q9 : Addr) (u : SX) (t : State) (H1 : Heap) (locs1 : List Loc), t.heap = H1 → s.vm.Alike t.vm → px u → BX E u t → H.size ≤ H1.size → (∀ q : Nat, q < H.size → ¬ AX q → H1[q]? = H[q]?) → va_S A0 H0 H1 locs1 → H1[q9]? = some ce → ce.vm = .none → s.vm.findClass E = some ce.cls → vx_W p l e R s m args below meth c H1 locs1 (cells + mc) (slots + ms) Q (F0 m pc ls rest) q9)
    (kk : ∀ (r : UInt64) (u : S) (t : State) (H1 : Heap) (locs1 : List Loc), t.heap = H1 → s.vm.Alike t.vm → post r u → B u t → H.size ≤ H1.size → (∀ q : Nat, q < H.size → ¬ A1 q → H1[q]? = H[q]?) → va_S A0 H0 H1 locs1 → W p l e R s m args below meth c H1 locs1 (cells + mc) (slots + ms) Q (F0 m (pc + 3) ls (.double r :: rest))) : W p l e R s m args below meth c H locs cells slots Q (F0 m pc ls st0) := by
  intro T hT X
  rcases hr T hT X with ⟨v, st₀, t, T', L, h0, X', hL, e1, e2, ⟨⟨r, u, hv, hp, hb⟩, hF⟩, st⟩ | ⟨q, st₀, t, T', L, E, ce, h0, X', hL, e1, e2, ⟨u, hp, hb, hF⟩, hce, hcv, hcl, st⟩
  · cases hv
    obtain ⟨k1, k2, k3⟩ := vx_keep h0 e1 hS hA hf hL hF
    obtain ⟨t2, a1, b1⟩ := kk r u t T'.heap (locs ++ L) e1.symm (by rw [← e2]; exact X'.warmed.alike) hp hb k1 k2 k3 T' rfl X'
    exact ⟨t2, st t2 a1, b1⟩
  · obtain ⟨k1, k2, k3⟩ := vx_keep h0 e1 hS hAX hf hL hF
    obtain ⟨t2, a1, b1⟩ := kx E ce q u t T'.heap (locs ++ L) e1.symm (by rw [← e2]; exact X'.warmed.alike) hp hb k1 k2 k3 (by rw [e1]; exact hce) hcv hcl T' rfl X'
    exact ⟨t2, st.trans a1, b1⟩
theorem vx_callv {S SX : Type} {post : S → Prop} {px : SX → Prop} {B : S → State → Prop} {BX : String → SX → State → Prop} {AX : Nat → Prop} (hr : vx_Run p l e R s m args below meth c H locs cells slots mc ms (F0 m pc ls st0) rest (va_Qv post B A1 a) (vx_X px BX AX) free) (hS : va_S A0 H0 H locs) (hA : ∀ q, q < H.size → A1 q → A0 q) (hf : ∀ q, free q → A0 q) (hAX : ∀ q, q < H.size → AX q → A0 q)
    (kx : ∀ (E : String) (ce : Cell) (q9 : Addr) (u : SX) (t : State) (H1 : Heap) (locs1 : List Loc), t.heap = H1 → s.vm.Alike t.vm → px u → BX E u t → H.size ≤ H1.size → (∀ q : Nat, q < H.size → ¬ AX q → H1[q]? = H[q]?) → va_S A0 H0 H1 locs1 → H1[q9]? = some ce → ce.vm = .none → s.vm.findClass E = some ce.cls → vx_W p l e R s m args below meth c H1 locs1 (cells + mc) (slots + ms) Q (F0 m pc ls rest) q9)
    (kk : ∀ (u : S) (t : State) (H1 : Heap) (locs1 : List Loc), t.heap = H1 → s.vm.Alike t.vm → post u → B u t → H.size ≤ H1.size → (∀ q : Nat, q < H.size → ¬ A1 q → H1[q]? = H[q]?) → va_S A0 H0 H1 locs1 → W p l e R s m args below meth c H1 locs1 (cells + mc) (slots + ms) Q (F0 m (pc + 3) ls (rest))) : W p l e R s m args below meth c H locs cells slots Q (F0 m pc ls st0) := by
  intro T hT X
  rcases hr T hT X with ⟨v, st₀, t, T', L, h0, X', hL, e1, e2, ⟨⟨u, hv, hp, hb⟩, hF⟩, st⟩ | ⟨q, st₀, t, T', L, E, ce, h0, X', hL, e1, e2, ⟨u, hp, hb, hF⟩, hce, hcv, hcl, st⟩
  · cases hv
    obtain ⟨k1, k2, k3⟩ := vx_keep h0 e1 hS hA hf hL hF
    obtain ⟨t2, a1, b1⟩ := kk u t T'.heap (locs ++ L) e1.symm (by rw [← e2]; exact X'.warmed.alike) hp hb k1 k2 k3 T' rfl X'
    exact ⟨t2, st t2 a1, b1⟩
  · obtain ⟨k1, k2, k3⟩ := vx_keep h0 e1 hS hAX hf hL hF
    obtain ⟨t2, a1, b1⟩ := kx E ce q u t T'.heap (locs ++ L) e1.symm (by rw [← e2]; exact X'.warmed.alike) hp hb k1 k2 k3 (by rw [e1]; exact hce) hcv hcl T' rfl X'
    exact ⟨t2, st.trans a1, b1⟩
end Rows
section Ends
variable {p : Program} {l : Launch} {e : Env} {R : Room} {s : State} {m : MethodId} {args : Array Value} {below : List Frame} {meth : Method} {c : Code} {H : Heap} {locs : List Loc} {cells slots : Nat} {Q : State → Prop}
variable {mc ms : Nat} {free : Addr → Prop} {A0 A1 : Nat → Prop} {H0 : Heap} {a : Array Value} {ls : Array Slot} {st0 rest : List Value}
variable {Qc : Array Value → State → Outcome → State → Prop} {XC : String → State → State → Prop}
/-- what a body that may throw owes at its end -/
def vx_MQ (below : List Frame) (Qc : Array Value → State → Outcome → State → Prop) (XC : String → State → State → Prop) (a : Array Value) (s : State) (mc ms : Nat) (free : Addr → Prop) : State → Prop := fun t =>
  ∃ o, t.status = .running ∧ Ended t below o ∧ vx_Q Qc XC mc ms free a s o t
theorem vx_ret {g : JFrame} {mc ms : Nat} (k : W p l e R s m args below meth c H locs cells slots (MQ below Qc args s mc ms free) g) : W p l e R s m args below meth c H locs cells slots (vx_MQ below Qc XC args s mc ms free) g := by
  intro T hT X
  obtain ⟨t, a1, o, b1, b2, b3, b4⟩ := k T hT X
  exact ⟨t, a1, o, b1, b2, Or.inl ⟨b3, b4⟩⟩
/-- not caught here: it goes on to the caller -/
theorem vx_widen {g : JFrame} {q : Addr} {k n : Nat} (h1 : cells ≤ k) (h2 : slots ≤ n) (kk : vx_W p l e R s m args below meth c H locs k n Q g q) : vx_W p l e R s m args below meth c H locs cells slots Q g q := fun T hT X => kk T hT (stand_widen X h1 h2)
theorem vx_out {pc : Nat} {E : String} {ce : Cell} {q : Addr} {mc ms : Nat} (hout : ∀ x ∈ c.exceptionTable.toList, covers x pc = false) (hlocks : meth.locks = false) (hcell : H[q]? = some ce) (hv : ce.vm = .none) (hcl : s.vm.findClass E = some ce.cls)
    (hx : ∀ t : State, t.heap = H → s.vm.Alike t.vm → XC E s t) (hf : ∀ z ∈ locs, free z.base) (hc : cells ≤ mc) (hs : slots ≤ ms) :
    vx_W p l e R s m args below meth c H locs cells slots (vx_MQ below Qc XC args s mc ms free) (F0 m pc ls rest) q := by
  intro T hT X
  obtain ⟨st1, hrun, hend, hW, hsm⟩ := X.leaveThrown q (g := F0 m pc ls rest) rfl rfl rfl hout hlocks
  have hcell9 : (T.setFrames (.throwing q :: below)).heap[q]? = some ce := by
    show T.heap[q]? = some ce
    rw [hT]; exact hcell
  exact ⟨_, st1, .threw q, hrun, hend, Or.inr ⟨q, rfl, E, ce, locs, hx _ hT hW.alike, hcell9, hv, hcl, hW, hsm.mono hc hs, hf⟩⟩
theorem vx_frame {U : State} {k n : Nat} (h : s.sameButNew ({ U with vm := s.vm } : State) locs k n) : s.heap.size ≤ U.heap.size ∧ ∀ q : Nat, q < s.heap.size → (∀ z ∈ locs, z.base ≠ q) → U.heap[q]? = s.heap[q]? := by
  obtain ⟨-, h2, -, -, -, h6⟩ := h
  refine ⟨h2, fun q hq hz => ?_⟩
  obtain ⟨c9, e1, e2, e3, e4⟩ := h6 q _ (Array.getElem?_eq_getElem hq)
  have hs : c9.slots = (s.heap[q]).slots := Array.ext_getElem? fun i => e4 i fun hm => hz _ hm rfl
  have h9 : c9 = s.heap[q] := by
    rw [hs] at e2
    exact e2
  have e5 : U.heap[q]? = some c9 := e1
  rw [e5, h9, Array.getElem?_eq_getElem hq]
/-- the words of a throw but the four that speak of the heap -/
def vx_no (w : Cond) : Bool := decide (w ≠ .isRef (.static Bundle.tN "UNASSIGNED_STACK" Bundle.steD)) && decide (w ≠ .isRef (.static Bundle.tN "SUPPRESSED_SENTINEL" Bundle.listD)) && decide (w ≠ .laysStatic Bundle.tN "UNASSIGNED_STACK" Bundle.steD) && decide (w ≠ .laysStatic Bundle.tN "SUPPRESSED_SENTINEL" Bundle.listD)
def vx_at0 (own : String) (ic : Nat) (X : String) (names : List String) : List Cond := (Bundle.ownAtoms0 own ic X names).filter vx_no
def vx_atS (own : String) (ic : Nat) (X : String) (names : List String) : List Cond := (Bundle.ownAtoms own ic X names).filter vx_no
/-- a word that the tables alone decide, or a good one -/
def vx_ot (w : Cond) : Bool := w.onTables || goodWord w
theorem vx_ot_at {args a' : Array Value} {s U : State} {w : Cond} (hW : s.WarmedH U.vm) (hvm : s.vm = U.vm) (hg : vx_ot w = true) (h : w.before args s = true) : w.before a' U = true := by
  simp only [vx_ot, Bool.or_eq_true] at hg
  rcases hg with hg | hg
  · exact va_tabs hg hvm h
  · exact word_at hW (good_of_word hg) h
/-- a list's words: the good ones out of the method's own list, the others by premises of their own -/
theorem vx_hat {args : Array Value} {s : State} {L B : List Cond} (h1 : ∀ w ∈ L.filter goodWord, w.before args s = true) (h2 : ∀ w ∈ L.filter (fun w => !goodWord w), w ∈ B) (h3 : ∀ w ∈ B, w.before args s = true) : ∀ w ∈ L, w.before args s = true := by
  intro w hw
  by_cases g : goodWord w = true
  · exact h1 w (List.mem_filter.mpr ⟨hw, g⟩)
  · refine h3 w (h2 w (List.mem_filter.mpr ⟨hw, ?_⟩))
    show (!goodWord w) = true
    cases hgw : goodWord w
    · rfl
    · exact absurd hgw g
theorem vx_c {args : Array Value} {s : State} {w : Cond} {B : List Cond} (h : w.before args s = true) (t : ∀ w ∈ B, w.before args s = true) : ∀ w' ∈ w :: B, w'.before args s = true := fun w' h' => (List.mem_cons.mp h').elim (fun e => by rw [e]; exact h) (t w')
theorem vx_n {args : Array Value} {s : State} : ∀ w ∈ ([] : List Cond), w.before args s = true := fun _ h => nomatch h
theorem vx_own {args : Array Value} {s : State} {L : List Cond} (h1 : ∀ w ∈ L.filter vx_no, w.before args s = true)
    (hU : (Cond.isRef (.static Bundle.tN "UNASSIGNED_STACK" Bundle.steD)).before args s = true) (hN : (Cond.isRef (.static Bundle.tN "SUPPRESSED_SENTINEL" Bundle.listD)).before args s = true)
    (lU : (Cond.laysStatic Bundle.tN "UNASSIGNED_STACK" Bundle.steD).before args s = true) (lN : (Cond.laysStatic Bundle.tN "SUPPRESSED_SENTINEL" Bundle.listD).before args s = true) : ∀ w ∈ L, w.before args s = true := by
  intro w hw
  by_cases e1 : w = .isRef (.static Bundle.tN "UNASSIGNED_STACK" Bundle.steD)
  · rw [e1]; exact hU
  · by_cases e2 : w = .isRef (.static Bundle.tN "SUPPRESSED_SENTINEL" Bundle.listD)
    · rw [e2]; exact hN
    · by_cases e3 : w = .laysStatic Bundle.tN "UNASSIGNED_STACK" Bundle.steD
      · rw [e3]; exact lU
      · by_cases e4 : w = .laysStatic Bundle.tN "SUPPRESSED_SENTINEL" Bundle.listD
        · rw [e4]; exact lN
        · exact h1 w (List.mem_filter.mpr ⟨hw, by unfold vx_no; rw [decide_eq_true e1, decide_eq_true e2, decide_eq_true e3, decide_eq_true e4]; rfl⟩)
/-- where a static field lies, its class's statics cell in H -/
def vx_L (C n d : String) (A : Nat → Prop) (U : State) (H : Heap) : Prop := ∃ (c : ClassId) (k : Class) (i : Nat) (f : Field) (a : Nat) (cell : Cell), U.vm.findClass C = some c ∧ U.fieldFound? C n d = some (c, k, i, f) ∧ f.isStatic = true ∧ k.statics = some a ∧ H[a]? = some cell ∧ cell.vm.isStatics = true ∧ cell.cls = c ∧ f.slot < cell.slots.size ∧ k.staticTypes[f.slot]? = some f.type ∧ ¬ A a
theorem vx_L.moved {C n d : String} {A : Nat → Prop} {u U : State} {H : Heap} (hvm : u.vm.Alike U.vm) (h : vx_L C n d A u H) : vx_L C n d A U H := by
  obtain ⟨c, k, i, f, a, cell, h1, h2, h3, h4, h5, h6, h7, h8, h9, h10⟩ := h
  obtain ⟨k', hi', he⟩ := State.fieldFound?_setVm hvm h2
  exact ⟨c, k', i, f, a, cell, by rw [hvm.findClass]; exact h1, hi', h3, by rw [he]; exact h4, h5, h6, h7, h8, by rw [he]; exact h9, h10⟩
theorem vx_L.kept {C n d : String} {A : Nat → Prop} {U : State} {H H1 : Heap} (h : vx_L C n d A U H) (hq : ∀ a : Nat, a < H.size → ¬ A a → H1[a]? = H[a]?) : vx_L C n d A U H1 := by
  obtain ⟨c, k, i, f, a, cell, h1, h2, h3, h4, h5, h6, h7, h8, h9, h10⟩ := h
  exact ⟨c, k, i, f, a, cell, h1, h2, h3, h4, by rw [hq a (Array.getElem?_eq_some_iff.mp h5).1 h10]; exact h5, h6, h7, h8, h9, h10⟩
theorem vx_L.narrow {C n d : String} {A B : Nat → Prop} {U : State} {H : Heap} (h : vx_L C n d A U H) (hAB : ∀ q, B q → A q) : vx_L C n d B U H := by
  obtain ⟨c, k, i, f, a, cell, h1, h2, h3, h4, h5, h6, h7, h8, h9, h10⟩ := h
  exact ⟨c, k, i, f, a, cell, h1, h2, h3, h4, h5, h6, h7, h8, h9, fun z => h10 (hAB _ z)⟩
theorem vx_L.word {C n d : String} {A : Nat → Prop} {s : State} {args : Array Value} (h : vx_L C n d A s s.heap) : (Cond.laysStatic C n d).before args s = true := by
  obtain ⟨c, k, i, f, a, cell, h1, h2, h3, h4, h5, h6, h7, h8, h9, -⟩ := h
  show (Cond.laysStatic C n d).holds args s none s [] = true
  exact Cond.laysStatic_of h1 h2 h3 h4 h5 h6 h7 h8 h9
/-- .. and what it holds: null or some reference -/
def vx_Zq (C n d : String) (A : Nat → Prop) (U : State) (H : Heap) : Prop := va_Zq C n d A U H ∧ vx_L C n d A U H
theorem vx_Zq.moved {C n d : String} {A : Nat → Prop} {u U : State} {H : Heap} (hvm : u.vm.Alike U.vm) (h : vx_Zq C n d A u H) : vx_Zq C n d A U H := ⟨va_Zq.moved hvm h.1, vx_L.moved hvm h.2⟩
theorem vx_Zq.kept {C n d : String} {A : Nat → Prop} {U : State} {H H1 : Heap} (h : vx_Zq C n d A U H) (hq : ∀ a : Nat, a < H.size → ¬ A a → H1[a]? = H[a]?) : vx_Zq C n d A U H1 := ⟨va_Zq.kept h.1 hq, vx_L.kept h.2 hq⟩
theorem vx_Zq.narrow {C n d : String} {A B : Nat → Prop} {U : State} {H : Heap} (h : vx_Zq C n d A U H) (hAB : ∀ q, B q → A q) : vx_Zq C n d B U H := ⟨va_Zq.narrow h.1 hAB, vx_L.narrow h.2 hAB⟩
theorem vx_Zqof {args : Array Value} {s : State} {C n d : String} {A : Nat → Prop} (hl : (Cond.laysStatic C n d).before args s = true) (hini : (Cond.initialized C).before args s = true) (h : (Cond.isRef (.static C n d)).before args s = true) (hA : ∀ a : Nat, a < s.heap.size → ¬ A a) : vx_Zq C n d A s s.heap := by
  refine ⟨va_Zqof hl hini h hA, ?_⟩
  obtain ⟨c, k, i, f, a, cell, h1, h2, h3, h4, h5, h6, h7, h8, h9⟩ := Cond.laysStatic_spec hl
  exact ⟨c, k, i, f, a, cell, h1, h2, h3, h4, h5, h6, h7, h8, h9, hA a (Array.getElem?_eq_some_iff.mp h5).1⟩
theorem vx_isRef {C n d : String} {v : Value} {A : Nat → Prop} {s : State} {args : Array Value} (h : va_Z C n d v A s s.heap) (hv : v.isRef = true) : (Cond.isRef (.static C n d)).before args s = true := by
  obtain ⟨cf, kf, fi, f, a, cell, h1, h2, h3, h4, h5, h6, h7, -⟩ := h
  have he : (Term.static C n d).eval args s none [] s = some v := by
    simp [Term.eval, State.fieldNamed?, h1, h2, h4, h5, h6, h7]
  simp only [Cond.before, Cond.holds, Cond.value, he]
  cases v <;> simp_all [Value.isRef]
theorem vx_isRefq {C n d : String} {A : Nat → Prop} {s : State} {args : Array Value} (h : va_Zq C n d A s s.heap) : (Cond.isRef (.static C n d)).before args s = true := by
  rcases h with h | ⟨t, h⟩
  · exact vx_isRef h rfl
  · exact vx_isRef h rfl
/-- the same frame, seen from here: as if the method were called anew in this heap -/
theorem vx_rebase {T : State} (X : Stand p l e R s m args below meth c T locs cells slots) {R' : Room} (hf : R'.frames ≤ R.frames) (hl : R'.locals ≤ R.locals) (hc : cells + R'.cells ≤ R.cells) (hs : slots + R'.slots ≤ R.slots) :
    Stand p l e R' ((T.setVm s.vm).setFrames (.invoking m args :: below)) m args below meth c T [] 0 0 := by
  have htop : (T.setVm s.vm).topJava?.isSome := X.here.top
  have hF : ((T.setVm s.vm).setFrames (.invoking m args :: below)).frames = .invoking m args :: below := State.frames_setFrames _ (State.cur_lt_of_top htop)
  obtain ⟨g₀, hg0⟩ := Option.isSome_iff_exists.mp htop
  obtain ⟨r, hr⟩ := State.topJava?_eq_some.mp hg0
  have hl9 : e.platform.stackLimits (T.setVm s.vm).me = e.platform.stackLimits s.me := X.limits
  have hb9 : (T.setVm s.vm).me.stackBytes = s.me.stackBytes := X.bytes
  refine ⟨X.admits, X.cas, X.clock, hF, ?_, X.hears, X.method, X.code, X.here, X.tail, X.warmed, ?_, ?_, ?_⟩
  · have h := X.room
    have hU : ((T.setVm s.vm).setFrames (.invoking m args :: below)).localsInUse = s.localsInUse := by
      rw [State.localsInUse_invoking hF (meth := meth) (c := c) X.method X.code, State.localsInUse_invoking X.frames X.method X.code]
    simp only [State.hasRoom, Bool.and_eq_true, decide_eq_true_eq] at h ⊢
    obtain ⟨⟨⟨⟨h1, h2, h3, h4, h5, h6⟩, h7⟩, h8⟩, h9⟩ := h
    rw [X.frames, List.length_cons] at h2 h3
    have q1 := X.heapSize
    have q2 := X.used
    simp only [hF, hU, List.length_cons, State.stackLimits_setFrames, State.stackBytes_setFrames, hl9, hb9]
    refine ⟨⟨⟨⟨by omega, by omega, by omega, by omega, by omega, h6⟩, ?_⟩, ?_⟩, X.book⟩
    · show T.heap.size + R'.cells ≤ e.platform.maxCells
      omega
    · show T.slotsUsed + R'.slots ≤ e.platform.maxSlots
      omega
  · rw [State.stackLimits_setFrames]; rfl
  · rw [State.stackBytes_setFrames]; rfl
  · refine ⟨?_, Nat.le_refl _, Nat.le_refl _, ?_, ?_, fun a c9 h9 => ⟨c9, h9, rfl, rfl, fun _ _ => rfl⟩⟩
    · obtain ⟨t, ht, -⟩ := State.frames_cons hr
      show T.setVm s.vm = { ((T.setVm s.vm).setFrames (.invoking m args :: below)).setFrames (T.setVm s.vm).frames with heap := T.heap, slotsUsed := T.slotsUsed }
      rw [State.setFrames_setFrames, State.setFrames_self ht]
      rfl
    · show T.slotsUsed = T.slotsUsed + ((T.heap.toList.drop T.heap.size).map (·.slots.size)).sum
      rw [List.drop_eq_nil_of_le (Nat.le_of_eq Array.length_toList)]
      rfl
    · show ((T.heap.toList.drop T.heap.size).map (·.slots.size)).sum ≤ 0
      rw [List.drop_eq_nil_of_le (Nat.le_of_eq Array.length_toList)]
      exact Nat.le_refl _
/-- 'throw new E()': new; dup; invokespecial; athrow -/
theorem vx_throw0 {cc : ByteArray} {pc : Nat} (hexec : p.tables.exec = Jvm.exec) (hb : c.code = cc) (hl : l.stackTraces = false) {own cls : String} {names : List String} {ik ic mc ms : Nat} {A : Nat → Prop}
    (hown : s.vm.findClass own = some m.cls) (hcls : Bundle.fit cls = true) (hnames : ∀ n ∈ names, Bundle.fit n = true)
    (hk : (Cond.classLink own ik cls).before args s = true) (hini : (Cond.initialized cls).before args s = true) (hat : ∀ w ∈ vx_at0 own ic cls names, w.before args s = true)
    (hgood : ∀ w ∈ Cond.classLink own ik cls :: Cond.initialized cls :: vx_at0 own ic cls names, vx_ot w = true)
    (hU : vx_Zq Bundle.tN "UNASSIGNED_STACK" Bundle.steD A s s.heap) (hN : vx_Zq Bundle.tN "SUPPRESSED_SENTINEL" Bundle.listD A s s.heap) (hS : va_S A s.heap H locs) (hsize : ls.size = c.maxLocals)
    (d0 : decode cc pc = .ok (.new ik, 3)) (d3 : decode cc (pc + 3) = .ok (.dup, 1)) (d4 : decode cc (pc + 4) = .ok (.invokespecial ic, 3)) (d7 : decode cc (pc + 7) = .ok (.athrow, 1))
    (hout : ∀ x ∈ c.exceptionTable.toList, covers x (pc + 7) = false)
    (hRframes : names.length + 3 < R.frames) (hRlocals : (rest.map fun v => v.category).sum + (13 * (names.length + 1) + 42) ≤ R.locals) (hRcells : cells + 1 ≤ R.cells) (hRslots : slots + 6 ≤ R.slots) (hlocks : meth.locks = false)
    (hx : ∀ t : State, s.vm.Alike t.vm → H.size ≤ t.heap.size → (∀ q : Nat, q < H.size → t.heap[q]? = H[q]?) → XC cls s t)
    (hf : ∀ z ∈ locs, free z.base) (hc : cells + 1 ≤ mc) (hs : slots + 6 ≤ ms) :
    W p l e R s m args below meth c H locs cells slots (vx_MQ below Qc XC args s mc ms free) (F0 m pc ls rest) := by
  intro T hT X
  have htr : e.platform.stackTraces = false := (show e.platform.stackTraces = l.stackTraces by rw [X.admits.platform]).trans hl
  have Y := vx_rebase X (R' := { frames := R.frames, locals := R.locals, cells := 1, slots := 6 }) (Nat.le_refl _) (Nat.le_refl _) hRcells hRslots
  obtain ⟨s', hA⟩ : ∃ z, z = (T.setVm s.vm).setFrames (.invoking m args :: below) := ⟨_, rfl⟩
  rw [← hA] at Y
  have hvm : s'.vm = s.vm := by rw [hA]; rfl
  have hhp : s'.heap = H := by rw [hA]; exact hT
  have hW0 : s.WarmedH s'.vm := by rw [hvm]; exact State.WarmedH.refl s
  have hat' : ∀ w ∈ vx_at0 own ic cls names, w.before args s' = true := fun w hw => vx_ot_at hW0 hvm.symm (hgood w (List.mem_cons_of_mem _ (List.mem_cons_of_mem _ hw))) (hat w hw)
  have hk' : (Cond.classLink own ik cls).before args s' = true := vx_ot_at hW0 hvm.symm (hgood _ List.mem_cons_self) hk
  have hini' : (Cond.initialized cls).before args s' = true := vx_ot_at hW0 hvm.symm (hgood _ (List.mem_cons_of_mem _ List.mem_cons_self)) hini
  have hU' : vx_Zq Bundle.tN "UNASSIGNED_STACK" Bundle.steD A s' s'.heap := by rw [hhp]; exact vx_Zq.moved hW0.alike (hU.kept hS.2.1)
  have hN' : vx_Zq Bundle.tN "SUPPRESSED_SENTINEL" Bundle.listD A s' s'.heap := by rw [hhp]; exact vx_Zq.moved hW0.alike (hN.kept hS.2.1)
  have h : ∀ w ∈ Bundle.ownAtoms0 own ic cls names, w.before args s' = true := vx_own hat' (vx_isRefq hU'.1) (vx_isRefq hN'.1) hU'.2.word hN'.2.word
  have hown' : s'.vm.findClass own = some m.cls := by rw [hvm]; exact hown
  have hins : (Cond.instantiable cls 6).before args s' = true := h _ (by simp [Bundle.ownAtoms0])
  obtain ⟨vm₁, cX, kX, hfX, hkX, -, -, X₁, st1⟩ := Y.newCold hexec (own := own) (C := cls) (index := ik) (n := 6) hown' hk' hins hini'
    (g := F0 m pc ls rest) rfl (by rw [hb]; exact d0) (Nat.le_refl _) (Nat.le_refl _)
  generalize hT1 : (T.setVm vm₁).pushCell { cls := cX, slots := kX.instanceTypes.map defaultValue, vm := .none } = T1 at X₁ st1
  have hcat : (Value.ref T.heap.size).category = 1 := rfl
  have hcellA : T1.heap[T.heap.size]? = some (freshCell cX kX) := by rw [← hT1]; exact State.heap_pushCell_size _ _
  have d3' : decode c.code (pc + 3) = .ok (.dup, 1) := by rw [hb]; exact d3
  obtain ⟨U, hsteps, hrun, hend, hW, hsame, ce, hce, hO⟩ := X₁.ctorThrow0 hexec htr (own := own) (cls := cls) (names := names) (ic := ic) hown' hcls hnames h (fun x hx => nomatch hx) hfX hkX hcellA (by rw [hhp, hT]; exact Nat.le_refl _)
    (g := { method := m, pc := pc + 4, locals := ls, stack := .ref T.heap.size :: .ref T.heap.size :: rest, locked := none }) rfl hsize rfl rfl (rest := rest) rfl
    (by rw [hb]; exact d4) (by rw [hb]; exact d7) hout hRframes (by simp only [List.map_cons, List.sum_cons, hcat]; omega) hlocks
  obtain ⟨f1, f2⟩ := vx_frame hsame
  rw [hhp] at f1 f2
  have hWs : s.WarmedH U.vm := State.WarmedH.trans hW0 hW
  have hcl : s.vm.findClass cls = some ce.cls := by
    have h9 := hO.cls
    rw [hvm] at h9
    exact h9
  have hall : s.sameButNew ({ U with vm := s.vm } : State) locs mc ms := by
    subst hA
    obtain ⟨e1, e2⟩ := hsame
    rw [State.setFrames_setFrames] at e1
    have h2 : (T.setVm s.vm).sameButNew ({ U with vm := s.vm } : State) [] (0 + 1) (0 + 6) := ⟨e1, e2⟩
    have h3 := X.same.trans h2
    rw [List.append_nil] at h3
    exact h3.mono hc hs
  refine ⟨U, ?_, .threw T.heap.size, hrun, hend, Or.inr ⟨T.heap.size, rfl, cls, ce, locs, hx U hWs.alike f1 (fun q hq => f2 q hq (fun z hz => nomatch hz)), hce, hO.vm, hcl, hWs, hall, hf⟩⟩
  refine st1 _ ?_
  show Steps p.tables e below (T1.setTop { method := m, pc := pc + 3, locals := ls, stack := .ref T.heap.size :: rest, locked := none }) _
  jvm_step X₁.here [X₁.here.top, hexec, d3', Value.category]
  exact hsteps
/-- 'throw new E("text")': new; dup; ldc; invokespecial; athrow -/
theorem vx_throwS {cc : ByteArray} {pc : Nat} (hexec : p.tables.exec = Jvm.exec) (hb : c.code = cc) (hl : l.stackTraces = false) {own cls text : String} {names : List String} {ik is ic mc ms sa : Nat} {A : Nat → Prop}
    (hown : s.vm.findClass own = some m.cls) (hcls : Bundle.fit cls = true) (hnames : ∀ n ∈ names, Bundle.fit n = true)
    (hk : (Cond.classLink own ik cls).before args s = true) (hini : (Cond.initialized cls).before args s = true) (hstr : vk_R own is text sa s) (hat : ∀ w ∈ vx_atS own ic cls names, w.before args s = true)
    (hgood : ∀ w ∈ Cond.classLink own ik cls :: Cond.initialized cls :: vx_atS own ic cls names, vx_ot w = true)
    (hU : vx_Zq Bundle.tN "UNASSIGNED_STACK" Bundle.steD A s s.heap) (hN : vx_Zq Bundle.tN "SUPPRESSED_SENTINEL" Bundle.listD A s s.heap) (hS : va_S A s.heap H locs) (hsize : ls.size = c.maxLocals)
    (d0 : decode cc pc = .ok (.new ik, 3)) (d3 : decode cc (pc + 3) = .ok (.dup, 1)) (d4 : decode cc (pc + 4) = .ok (.ldc is, 2)) (d6 : decode cc (pc + 6) = .ok (.invokespecial ic, 3)) (d9 : decode cc (pc + 9) = .ok (.athrow, 1))
    (hout : ∀ x ∈ c.exceptionTable.toList, covers x (pc + 9) = false)
    (hRframes : names.length + 3 < R.frames) (hRlocals : (rest.map fun v => v.category).sum + (13 * (names.length + 1) + 43) ≤ R.locals) (hRcells : cells + 1 ≤ R.cells) (hRslots : slots + 6 ≤ R.slots) (hlocks : meth.locks = false)
    (hx : ∀ t : State, s.vm.Alike t.vm → H.size ≤ t.heap.size → (∀ q : Nat, q < H.size → t.heap[q]? = H[q]?) → XC cls s t)
    (hf : ∀ z ∈ locs, free z.base) (hc : cells + 1 ≤ mc) (hs : slots + 6 ≤ ms) :
    W p l e R s m args below meth c H locs cells slots (vx_MQ below Qc XC args s mc ms free) (F0 m pc ls rest) := by
  intro T hT X
  have htr : e.platform.stackTraces = false := (show e.platform.stackTraces = l.stackTraces by rw [X.admits.platform]).trans hl
  have Y := vx_rebase X (R' := { frames := R.frames, locals := R.locals, cells := 1, slots := 6 }) (Nat.le_refl _) (Nat.le_refl _) hRcells hRslots
  obtain ⟨s', hA⟩ : ∃ z, z = (T.setVm s.vm).setFrames (.invoking m args :: below) := ⟨_, rfl⟩
  rw [← hA] at Y
  have hvm : s'.vm = s.vm := by rw [hA]; rfl
  have hhp : s'.heap = H := by rw [hA]; exact hT
  have hW0 : s.WarmedH s'.vm := by rw [hvm]; exact State.WarmedH.refl s
  have hat' : ∀ w ∈ vx_atS own ic cls names, w.before args s' = true := fun w hw => vx_ot_at hW0 hvm.symm (hgood w (List.mem_cons_of_mem _ (List.mem_cons_of_mem _ hw))) (hat w hw)
  have hk' : (Cond.classLink own ik cls).before args s' = true := vx_ot_at hW0 hvm.symm (hgood _ List.mem_cons_self) hk
  have hini' : (Cond.initialized cls).before args s' = true := vx_ot_at hW0 hvm.symm (hgood _ (List.mem_cons_of_mem _ List.mem_cons_self)) hini
  have hU' : vx_Zq Bundle.tN "UNASSIGNED_STACK" Bundle.steD A s' s'.heap := by rw [hhp]; exact vx_Zq.moved hW0.alike (hU.kept hS.2.1)
  have hN' : vx_Zq Bundle.tN "SUPPRESSED_SENTINEL" Bundle.listD A s' s'.heap := by rw [hhp]; exact vx_Zq.moved hW0.alike (hN.kept hS.2.1)
  have h : ∀ w ∈ Bundle.ownAtoms own ic cls names, w.before args s' = true := vx_own hat' (vx_isRefq hU'.1) (vx_isRefq hN'.1) hU'.2.word hN'.2.word
  have hown' : s'.vm.findClass own = some m.cls := by rw [hvm]; exact hown
  have hins : (Cond.instantiable cls 6).before args s' = true := h _ (by simp [Bundle.ownAtoms])
  obtain ⟨vm₁, cX, kX, hfX, hkX, -, -, X₁, st1⟩ := Y.newCold hexec (own := own) (C := cls) (index := ik) (n := 6) hown' hk' hins hini'
    (g := F0 m pc ls rest) rfl (by rw [hb]; exact d0) (Nat.le_refl _) (Nat.le_refl _)
  generalize hT1 : (T.setVm vm₁).pushCell { cls := cX, slots := kX.instanceTypes.map defaultValue, vm := .none } = T1 at X₁ st1
  have hcat : (Value.ref T.heap.size).category = 1 := rfl
  have hcellA : T1.heap[T.heap.size]? = some (freshCell cX kX) := by rw [← hT1]; exact State.heap_pushCell_size _ _
  have d3' : decode c.code (pc + 3) = .ok (.dup, 1) := by rw [hb]; exact d3
  have d4' : decode c.code (pc + 4) = .ok (.ldc is, 2) := by rw [hb]; exact d4
  have hstr' : vk_R own is text sa s' := vk_R.warm hW0 hstr
  obtain ⟨U, hsteps, hrun, hend, hW, hsame, ce, hce, hO⟩ := X₁.ctorThrowS hexec htr (own := own) (cls := cls) (names := names) (ic := ic) hown' hcls hnames h (fun x hx => nomatch hx) hfX hkX hcellA (by rw [hhp, hT]; exact Nat.le_refl _) (msg := .ref sa) rfl
    (g := { method := m, pc := pc + 6, locals := ls, stack := .ref sa :: .ref T.heap.size :: .ref T.heap.size :: rest, locked := none }) rfl hsize rfl rfl (rest := rest) rfl
    (by rw [hb]; exact d6) (by rw [hb]; exact d9) hout hRframes (by simp only [List.map_cons, List.sum_cons, hcat]; omega) hlocks
  obtain ⟨f1, f2⟩ := vx_frame hsame
  rw [hhp] at f1 f2
  have hWs : s.WarmedH U.vm := State.WarmedH.trans hW0 hW
  have hcl : s.vm.findClass cls = some ce.cls := by
    have h9 := hO.cls
    rw [hvm] at h9
    exact h9
  have hall : s.sameButNew ({ U with vm := s.vm } : State) locs mc ms := by
    subst hA
    obtain ⟨e1, e2⟩ := hsame
    rw [State.setFrames_setFrames] at e1
    have h2 : (T.setVm s.vm).sameButNew ({ U with vm := s.vm } : State) [] (0 + 1) (0 + 6) := ⟨e1, e2⟩
    have h3 := X.same.trans h2
    rw [List.append_nil] at h3
    exact h3.mono hc hs
  refine ⟨U, ?_, .threw T.heap.size, hrun, hend, Or.inr ⟨T.heap.size, rfl, cls, ce, locs, hx U hWs.alike f1 (fun q hq => f2 q hq (fun z hz => nomatch hz)), hce, hO.vm, hcl, hWs, hall, hf⟩⟩
  refine st1 _ ?_
  show Steps p.tables e below (T1.setTop { method := m, pc := pc + 3, locals := ls, stack := .ref T.heap.size :: rest, locked := none }) _
  jvm_step X₁.here [X₁.here.top, hexec, d3', Value.category]
  exact X₁.ldcString hexec (own := own) (text := text) (index := is) (a := sa) hown' hstr'.1 hstr'.2
    (g := { method := m, pc := pc + 4, locals := ls, stack := .ref T.heap.size :: .ref T.heap.size :: rest, locked := none }) rfl d4' _ hsteps
/-- 'throw new E("text")', the text by a wide index -/
theorem vx_throwSW {cc : ByteArray} {pc : Nat} (hexec : p.tables.exec = Jvm.exec) (hb : c.code = cc) (hl : l.stackTraces = false) {own cls text : String} {names : List String} {ik is ic mc ms sa : Nat} {A : Nat → Prop}
    (hown : s.vm.findClass own = some m.cls) (hcls : Bundle.fit cls = true) (hnames : ∀ n ∈ names, Bundle.fit n = true)
    (hk : (Cond.classLink own ik cls).before args s = true) (hini : (Cond.initialized cls).before args s = true) (hstr : vk_R own is text sa s) (hat : ∀ w ∈ vx_atS own ic cls names, w.before args s = true)
    (hgood : ∀ w ∈ Cond.classLink own ik cls :: Cond.initialized cls :: vx_atS own ic cls names, vx_ot w = true)
    (hU : vx_Zq Bundle.tN "UNASSIGNED_STACK" Bundle.steD A s s.heap) (hN : vx_Zq Bundle.tN "SUPPRESSED_SENTINEL" Bundle.listD A s s.heap) (hS : va_S A s.heap H locs) (hsize : ls.size = c.maxLocals)
    (d0 : decode cc pc = .ok (.new ik, 3)) (d3 : decode cc (pc + 3) = .ok (.dup, 1)) (d4 : decode cc (pc + 4) = .ok (.ldc_w is, 3)) (d7 : decode cc (pc + 7) = .ok (.invokespecial ic, 3)) (d10 : decode cc (pc + 10) = .ok (.athrow, 1))
    (hout : ∀ x ∈ c.exceptionTable.toList, covers x (pc + 10) = false)
    (hRframes : names.length + 3 < R.frames) (hRlocals : (rest.map fun v => v.category).sum + (13 * (names.length + 1) + 43) ≤ R.locals) (hRcells : cells + 1 ≤ R.cells) (hRslots : slots + 6 ≤ R.slots) (hlocks : meth.locks = false)
    (hx : ∀ t : State, s.vm.Alike t.vm → H.size ≤ t.heap.size → (∀ q : Nat, q < H.size → t.heap[q]? = H[q]?) → XC cls s t)
    (hf : ∀ z ∈ locs, free z.base) (hc : cells + 1 ≤ mc) (hs : slots + 6 ≤ ms) :
    W p l e R s m args below meth c H locs cells slots (vx_MQ below Qc XC args s mc ms free) (F0 m pc ls rest) := by
  intro T hT X
  have htr : e.platform.stackTraces = false := (show e.platform.stackTraces = l.stackTraces by rw [X.admits.platform]).trans hl
  have Y := vx_rebase X (R' := { frames := R.frames, locals := R.locals, cells := 1, slots := 6 }) (Nat.le_refl _) (Nat.le_refl _) hRcells hRslots
  obtain ⟨s', hA⟩ : ∃ z, z = (T.setVm s.vm).setFrames (.invoking m args :: below) := ⟨_, rfl⟩
  rw [← hA] at Y
  have hvm : s'.vm = s.vm := by rw [hA]; rfl
  have hhp : s'.heap = H := by rw [hA]; exact hT
  have hW0 : s.WarmedH s'.vm := by rw [hvm]; exact State.WarmedH.refl s
  have hat' : ∀ w ∈ vx_atS own ic cls names, w.before args s' = true := fun w hw => vx_ot_at hW0 hvm.symm (hgood w (List.mem_cons_of_mem _ (List.mem_cons_of_mem _ hw))) (hat w hw)
  have hk' : (Cond.classLink own ik cls).before args s' = true := vx_ot_at hW0 hvm.symm (hgood _ List.mem_cons_self) hk
  have hini' : (Cond.initialized cls).before args s' = true := vx_ot_at hW0 hvm.symm (hgood _ (List.mem_cons_of_mem _ List.mem_cons_self)) hini
  have hU' : vx_Zq Bundle.tN "UNASSIGNED_STACK" Bundle.steD A s' s'.heap := by rw [hhp]; exact vx_Zq.moved hW0.alike (hU.kept hS.2.1)
  have hN' : vx_Zq Bundle.tN "SUPPRESSED_SENTINEL" Bundle.listD A s' s'.heap := by rw [hhp]; exact vx_Zq.moved hW0.alike (hN.kept hS.2.1)
  have h : ∀ w ∈ Bundle.ownAtoms own ic cls names, w.before args s' = true := vx_own hat' (vx_isRefq hU'.1) (vx_isRefq hN'.1) hU'.2.word hN'.2.word
  have hown' : s'.vm.findClass own = some m.cls := by rw [hvm]; exact hown
  have hins : (Cond.instantiable cls 6).before args s' = true := h _ (by simp [Bundle.ownAtoms])
  obtain ⟨vm₁, cX, kX, hfX, hkX, -, -, X₁, st1⟩ := Y.newCold hexec (own := own) (C := cls) (index := ik) (n := 6) hown' hk' hins hini'
    (g := F0 m pc ls rest) rfl (by rw [hb]; exact d0) (Nat.le_refl _) (Nat.le_refl _)
  generalize hT1 : (T.setVm vm₁).pushCell { cls := cX, slots := kX.instanceTypes.map defaultValue, vm := .none } = T1 at X₁ st1
  have hcat : (Value.ref T.heap.size).category = 1 := rfl
  have hcellA : T1.heap[T.heap.size]? = some (freshCell cX kX) := by rw [← hT1]; exact State.heap_pushCell_size _ _
  have d3' : decode c.code (pc + 3) = .ok (.dup, 1) := by rw [hb]; exact d3
  have d4' : decode c.code (pc + 4) = .ok (.ldc_w is, 3) := by rw [hb]; exact d4
  have hstr' : vk_R own is text sa s' := vk_R.warm hW0 hstr
  obtain ⟨U, hsteps, hrun, hend, hW, hsame, ce, hce, hO⟩ := X₁.ctorThrowS hexec htr (own := own) (cls := cls) (names := names) (ic := ic) hown' hcls hnames h (fun x hx => nomatch hx) hfX hkX hcellA (by rw [hhp, hT]; exact Nat.le_refl _) (msg := .ref sa) rfl
    (g := { method := m, pc := pc + 7, locals := ls, stack := .ref sa :: .ref T.heap.size :: .ref T.heap.size :: rest, locked := none }) rfl hsize rfl rfl (rest := rest) rfl
    (by rw [hb]; exact d7) (by rw [hb]; exact d10) hout hRframes (by simp only [List.map_cons, List.sum_cons, hcat]; omega) hlocks
  obtain ⟨f1, f2⟩ := vx_frame hsame
  rw [hhp] at f1 f2
  have hWs : s.WarmedH U.vm := State.WarmedH.trans hW0 hW
  have hcl : s.vm.findClass cls = some ce.cls := by
    have h9 := hO.cls
    rw [hvm] at h9
    exact h9
  have hall : s.sameButNew ({ U with vm := s.vm } : State) locs mc ms := by
    subst hA
    obtain ⟨e1, e2⟩ := hsame
    rw [State.setFrames_setFrames] at e1
    have h2 : (T.setVm s.vm).sameButNew ({ U with vm := s.vm } : State) [] (0 + 1) (0 + 6) := ⟨e1, e2⟩
    have h3 := X.same.trans h2
    rw [List.append_nil] at h3
    exact h3.mono hc hs
  refine ⟨U, ?_, .threw T.heap.size, hrun, hend, Or.inr ⟨T.heap.size, rfl, cls, ce, locs, hx U hWs.alike f1 (fun q hq => f2 q hq (fun z hz => nomatch hz)), hce, hO.vm, hcl, hWs, hall, hf⟩⟩
  refine st1 _ ?_
  show Steps p.tables e below (T1.setTop { method := m, pc := pc + 3, locals := ls, stack := .ref T.heap.size :: rest, locked := none }) _
  jvm_step X₁.here [X₁.here.top, hexec, d3', Value.category]
  exact X₁.ldcStringW hexec (own := own) (text := text) (index := is) (a := sa) hown' hstr'.1 hstr'.2
    (g := { method := m, pc := pc + 4, locals := ls, stack := .ref T.heap.size :: .ref T.heap.size :: rest, locked := none }) rfl d4' _ hsteps
end Ends
section Bodies
variable {l : Launch}
theorem vx_ofW {y : MethodName} {ws ws' : List Cond} {rm : Room} {Pc : Array Value → State → Prop} {Qc : Array Value → State → Outcome → State → Prop} {XC : String → State → State → Prop} {mc ms : Nat} {free : Addr → Prop} {cc : ByteArray} {maxL : Nat} {ret : Option FieldType}
    (hy : plainName y.cls = true) (hw : ws = Cond.code y cc maxL ret :: ws')
    (body : ∀ p e s m args below meth c s₁, BodyLoose p l y (headSpec ws rm) cc maxL ret e s m args below meth c s₁ → c.maxLocals = maxL → (∀ x ∈ c.exceptionTable.toList, False) → Pc args s →
      W p l e (headSpec ws rm).room s m args below meth c s.heap [] 0 0 (vx_MQ below Qc XC args s mc ms free) (entryFrame m args maxL)) : vx_Met l y ws rm Pc Qc XC mc ms free := by
  refine MetFree.of_bodyS (code := cc) (maxLocals := maxL) (ret := ret) hy ?_ ?_
  · intro args s m h hn
    obtain ⟨meth, c, h1, h2, h3, h4, h5, h6, -, -⟩ := Cond.code_spec hn (atoms_spec (ws := ws) h _ (by rw [hw]; exact List.mem_cons_self))
    exact ⟨meth, c, h1, h2, h3, h4, h5, h6⟩
  · intro p e s m args below meth c s₁ B hml hP _
    have hh0 : s₁.heap = s.heap := by rw [B.state]; rfl
    have ht : ∀ x ∈ c.exceptionTable.toList, False := by
      obtain ⟨meth9, c9, h1, h2, -, -, -, -, h7, -⟩ := Cond.code_spec B.named (atoms_spec (ws := ws) B.pre _ (by rw [hw]; exact List.mem_cons_self))
      cases Option.some.inj (h1.symm.trans B.method)
      cases Option.some.inj (h2.symm.trans (Stand.of_body B).code)
      intro x hx
      rw [Array.isEmpty_iff.mp h7] at hx
      cases hx
    obtain ⟨t, a1, o, b1, b2, b3⟩ := body p e s m args below meth c s₁ B hml ht hP s₁ hh0 (Stand.of_body B)
    exact ⟨t, o, a1, b1, b2, b3⟩
/-- the table of a body with handlers -/
theorem vx_table {p : Program} {x y : MethodName} {S : Spec} {cc bytes : ByteArray} {maxL maxL' : Nat} {ret ret' : Option FieldType} {e : Env} {s s₁ : State} {m : MethodId} {args : Array Value} {below : List Frame} {meth : Method} {c : Code} {hh : List (Nat × Nat × Nat × Nat)}
    (B : BodyLoose p l y S cc maxL ret e s m args below meth c s₁) (h : (Cond.codeWith y bytes maxL' ret' hh).before args s = true) : c.exceptionTable.toList = tableOf hh := by
  obtain ⟨m9, meth9, c9, hn9, h1, h2, -, -, h6, -⟩ := Cond.codeWith_spec h
  cases Option.some.inj (hn9.symm.trans B.named)
  cases Option.some.inj (h1.symm.trans B.method)
  cases Option.some.inj (h2.symm.trans (Stand.of_body B).code)
  rw [← h6, table_eq]
end Bodies
end VXA
/-! ===== END ===== -/
/-! ===== BEGIN a static call of a method with an exception table ===== -/
section VXS
variable {p : Program} {l : Launch} {e : Env} {R : Room} {s : State} {m : MethodId} {args : Array Value} {below : List Frame} {meth : Method} {c : Code} {T : State} {H : Heap} {locs : List Loc} {cells slots : Nat}
abbrev vx_CSW (R : Room) (s : State) (args : Array Value) (own : String) (index : Nat) (y : MethodName) (bytes : ByteArray) (maxL : Nat) (ret : Option FieldType) (hh : List (Nat × Nat × Nat × Nat)) (ws : List Cond) (rm : Room) (mc ms n : Nat) : Prop :=
  (rm.cells = mc ∧ rm.slots = ms ∧ rm.frames + 1 ≤ R.frames ∧ 8 + (maxL + 11) + rm.locals ≤ R.locals ∧ (∀ w ∈ ws, ∀ (a' : Array Value) (U : State), s.WarmedH U.vm → w.before a' U = true) ∧ Cond.codeWith y bytes maxL ret hh ∈ ws) ∧
  (Cond.codeWith y bytes maxL ret hh).before args s = true ∧ (Cond.initialized y.cls).before args s = true ∧ (y.cls ≠ "java/lang/invoke/MethodHandle" ∧ y.cls ≠ "java/lang/invoke/VarHandle") ∧
  (∀ sig, parseMethodDescriptor y.desc = some sig → n = sig.parameters.length) ∧ (Cond.methodLink own index y).before args s = true ∧ (Cond.static y).before args s = true
theorem vx_cwSW {own : String} {index maxL mc ms : Nat} {y : MethodName} {bytes : ByteArray} {ret : Option FieldType} {hh : List (Nat × Nat × Nat × Nat)} {Ts ws ws' : List Cond} {rm : Room} (n : Nat) (ht : ∀ w ∈ Ts, w.before args s = true) (hT : GoodIn Ts (va_wsS own index y ws)) (hw : ws = Cond.codeWith y bytes maxL ret hh :: ws') (hrc : rm.cells = mc) (hrs : rm.slots = ms)
    (hd : y.cls ≠ "java/lang/invoke/MethodHandle" ∧ y.cls ≠ "java/lang/invoke/VarHandle" ∧ (parseMethodDescriptor y.desc).map (fun d => d.parameters.length) = some n) (hR : rm.frames + 1 ≤ R.frames ∧ 8 + (maxL + 11) + rm.locals ≤ R.locals) :
    vx_CSW R s args own index y bytes maxL ret hh ws rm mc ms n := by
  have ok : ∀ w ∈ va_wsS own index y ws, w.before args s = true := fun w h => ht w (hT w h).1
  have hG : GoodIn Ts ws := fun w h => hT w (by unfold va_wsS; exact List.mem_append_right _ h)
  have hc : Cond.codeWith y bytes maxL ret hh ∈ ws := by rw [hw]; exact List.mem_cons_self
  refine ⟨⟨hrc, hrs, hR.1, hR.2, pay_in ht hG, hc⟩, ht _ (hG _ hc).1, ok _ (by simp [va_wsS]), ⟨hd.1, hd.2.1⟩, fun sig h => ?_, ok _ (by simp [va_wsS]), ok _ (by simp [va_wsS])⟩
  have h2 := hd.2.2
  rw [h] at h2
  exact (Option.some.inj h2).symm
theorem vx_callSW (X : Stand p l e R s m args below meth c T locs cells slots) (hexec : p.tables.exec = Jvm.exec) {own : String} {index : Nat} {y : MethodName} {bytes : ByteArray} {maxL : Nat} {ret : Option FieldType} {hh : List (Nat × Nat × Nat × Nat)}
    (hown : s.vm.findClass own = some m.cls) (hlink : (Cond.methodLink own index y).before args s = true) (hstat : (Cond.static y).before args s = true) (hinit : (Cond.initialized y.cls).before args s = true)
    (hcode : (Cond.codeWith y bytes maxL ret hh).before args s = true) (hy : y.cls ≠ "java/lang/invoke/MethodHandle" ∧ y.cls ≠ "java/lang/invoke/VarHandle")
    {W9 : Nat} {Pre : Pt → Array Value → Prop} {Post : Pt → Array Value → Option Value → Pt → Prop} (hK : Back l R p e below s args y 3 W9 Pre Post)
    {g : JFrame} (hg : g.method = m) (hsize : g.locals.size = c.maxLocals) {argsL rest : List Value} (hlen : ∀ sig, parseMethodDescriptor y.desc = some sig → argsL.length = sig.parameters.length)
    (hstack : g.stack = argsL.reverse ++ rest) (hW : 2 * g.monitorRoom + (rest.map fun v => v.category).sum ≤ W9) (hdg : decode c.code g.pc = .ok (.invokestatic index, 3))
    (hpre : ∀ vm₁, s.WarmedH vm₁ → Pre ⟨T.setVm vm₁, locs, cells, slots⟩ argsL.toArray) :
    ∃ (v : Option Value) (vm₁ : Vm) (B : Pt), s.WarmedH vm₁ ∧ Stand p l e R s m args below meth c B.U B.locs B.cells B.slots ∧ Post ⟨T.setVm vm₁, locs, cells, slots⟩ argsL.toArray v B ∧
      ∀ target, Steps p.tables e below (B.U.setTop { g with pc := g.pc + 3, stack := v.toList ++ rest }) target → Steps p.tables e below (T.setTop g) target := by
  obtain ⟨mk, methM, cM, hnamed, hmethM, -, -, -, -, -, -, hsigM⟩ := Cond.codeWith_spec hcode
  have hstatic : methM.isStatic = true := Cond.static_spec hnamed hmethM hstat
  obtain ⟨kP, hkP, -⟩ := className_of_methodNamed hnamed
  have hinitP : kP.init = .initialized := Cond.initialized_spec (findClass_of_methodNamed hnamed) hkP hinit
  obtain ⟨vm₁, X₁, hstep₁⟩ := X.invokestatic hexec hown hlink hnamed hmethM hstatic hkP hinitP hy (g := g) hg (argsL := argsL) (rest := rest) (hlen _ hsigM) hstack hdg
  obtain ⟨v, B, X', hpost, hsteps⟩ := hK m meth c ⟨T.setVm vm₁, locs, cells, slots⟩ { g with stack := rest } (.invokestatic index) mk argsL.toArray X₁ hg hsize hdg hW (X₁.named hnamed) (hpre vm₁ X₁.warmed)
  exact ⟨v, vm₁, B, X₁.warmed, X', hpost, fun target h => hstep₁ _ fun acts => by rw [doInvoke_state]; exact hsteps.trans h⟩
theorem vx_runSW {y : MethodName} {bytes cc : ByteArray} {maxL nL mc ms n index : Nat} {ret : Option FieldType} {hh : List (Nat × Nat × Nat × Nat)} {ws : List Cond} {rm : Room} {Pc : Array Value → State → Prop} {Qc : Array Value → State → Outcome → State → Prop} {free : Addr → Prop} {Ts : List Cond} {own : String} {As rest : List Value} {g : JFrame}
    (S : CallFix p m c cc nL s args Ts own) (hM : Met l y ws rm Pc Qc mc ms free) (cw : vx_CSW R s args own index y bytes maxL ret hh ws rm mc ms n) (hp : PreS s H Pc As)
    (hg : g.method = m) (hn : As.length = n) (hsize : g.locals.size = nL) (hstack : g.stack = As.reverse ++ rest) (hW : 2 * g.monitorRoom + (rest.map fun v => v.category).sum ≤ 8) (hdg : decode cc g.pc = .ok (.invokestatic index, 3)) (hf : cells + mc ≤ R.cells ∧ slots + ms ≤ R.slots) :
    va_Run p l e R s m args below meth c H locs cells slots mc ms g rest (Qc As.toArray) (free) := by
  obtain ⟨⟨hrc, hrs, hfr, hlo, hws, hcw⟩, hcode, hini, hy, hlen, hl, hstt⟩ := cw
  have hK : Back l R p e below s args y 3 8 (PreOf R mc ms Pc) (PostOf Qc mc ms free) := va_backW (hh := hh) (bytes := bytes) (maxL := maxL) (ret := ret) hM hp.1 hrc hrs hfr hlo hws hcw (fun a' U hW => word_at hW (Or.inl (by first | rfl | simp [Cond.onTables, Cond.keeps, Cond.steady])) hini)
  obtain ⟨hx, hb, hml, ho, -⟩ := S
  intro T hT X
  obtain ⟨v, vm₁, ⟨U', l2, c2, s2⟩, hW₁, X', ⟨g', mk, t, L, e1, e2, hq, h1, hL, h2, h3⟩, st⟩ := vx_callSW X hx (hh := hh) (bytes := bytes) (maxL := maxL) (ret := ret) ho hl hstt hini hcode hy hK hg (hsize.trans hml.symm) (argsL := As) (rest := rest) (fun sig h => hn.trans (hlen sig h)) hstack hW (by rw [hb]; exact hdg)
    (fun vm₁ hW₁ => ⟨hf.1, hf.2, hp.2 (T.setVm vm₁) hT hW₁⟩)
  dsimp only [Pt.U, Pt.locs, Pt.cells, Pt.slots] at X' e1 e2 h1 h2 h3 st
  subst h1; subst h2; subst h3
  exact ⟨v, (T.setVm vm₁).calling g' mk As.toArray, t, U', L, hT, X', hL, e1, e2, hq, st⟩
/-- a thing of a world lies in the heap -/
theorem vx_lt {D : va_G} {cl : List vw_C} {ws : va_W} {H1 : Heap} (h : va_P D cl ws H1) {k : Nat} {q : Nat × va_E} (hk : ws[k]? = some q) : q.1 < H1.size := (h k q hk).lt
end VXS
/-! ===== END ===== -/
/-! ===== BEGIN methods with a table of their own: called by a name, returning or throwing ===== -/
section VXH
/-! vx_backW, vx_callVX, vx_callSX, vx_callVW, vx_runVW, vx_runVX, vx_runSX, vx_ofWH follow the same proofs as their sisters above (Free/Laws.lean, Shelf42/LK1.lean); vx_outP calls Shelf42/NT130.lean (outThrough). -/
section
variable {l : Launch} {R : Room} {p : Program} {e : Env} {below : List Frame} {s : State} {sargs : Array Value} {y : MethodName} {len W9 : Nat}
theorem vx_backW {ws : List Cond} {rm : Room} {Pc : Array Value → State → Prop} {Qc : Array Value → State → Outcome → State → Prop} {XC : String → State → State → Prop} {mc ms : Nat} {free : Addr → Prop} {bytes : ByteArray} {maxL : Nat} {ret : Option FieldType} {hh : List (Nat × Nat × Nat × Nat)}
    (hM : vx_Met l y ws rm Pc Qc XC mc ms free) (hblind : FrameBlind Pc) (hrc : rm.cells = mc) (hrs : rm.slots = ms)
    (hframes : rm.frames + 1 ≤ R.frames) (hlocals : W9 + (maxL + 11) + rm.locals ≤ R.locals)
    (hws : ∀ w ∈ ws, ∀ a' U, s.WarmedH U.vm → w.before a' U = true) (hcode : Cond.codeWith y bytes maxL ret hh ∈ ws) (hinit : ∀ a' U, s.WarmedH U.vm → (Cond.initialized y.cls).before a' U = true) :
    vx_Back l R p e below s sargs y len W9 (PreOf R mc ms Pc) (PostOf Qc mc ms free) (vx_Post XC mc ms free) := by
  intro m meth c A g ig mk a X hg hsize hdg hW hn hp
  have h1 : (headSpec ws rm).pre.before a A.U = true := atoms_intro fun w hw => hws w hw _ _ X.warmed
  have h2 : (Cond.codeWith y bytes maxL ret hh).before a A.U = true := hws _ hcode _ _ X.warmed
  have h3 : (Cond.initialized y.cls).before a A.U = true := hinit _ _ X.warmed
  have h4 : A.cells + (headSpec ws rm).room.cells ≤ R.cells := by rw [show (headSpec ws rm).room.cells = mc from hrc]; exact hp.1
  have h5 : A.slots + (headSpec ws rm).room.slots ≤ R.slots := by rw [show (headSpec ws rm).room.slots = ms from hrs]; exact hp.2.1
  have hPc : Pc a (A.U.calling g mk a) := hblind _ _ _ _ hp.2.2
  obtain ⟨U, Ls, c0, s0⟩ := A
  dsimp only [Pt.U, Pt.locs, Pt.cells, Pt.slots] at h1 h2 h3 h4 h5 X hn hPc ⊢
  obtain ⟨m9, methY, cY, hn9, hmY, hcY, -, hlY, -⟩ := Cond.codeWith_spec h2
  cases Option.some.inj (hn9.symm.trans hn)
  obtain ⟨kY, hkY, -⟩ := className_of_methodNamed hn
  have hinitY : kY.init = .initialized := Cond.initialized_spec (findClass_of_methodNamed hn) hkY h3
  have h : At U g.method c below := by rw [hg]; exact X.here
  have hlocals9 : W9 + (maxL + 11) + (headSpec ws rm).room.locals ≤ R.locals := hlocals
  have happ : (headSpec ws rm).appliesLoose y e.platform (U.calling g mk a) = true :=
    Spec.appliesLoose_calling (g := g) h hdg hn hkY hinitY
      (X.room_calling (g := g) (R' := (headSpec ws rm).room) hsize hmY hcY hframes (by rw [hlY]; omega) h4 h5) h1
  obtain ⟨mid, hmid⟩ := h.above
  have hfr : (U.setTop g).frames = (.java g :: mid) ++ below := by rw [State.frames_setTop' g h.top, hmid]; rfl
  obtain ⟨o, s₂, hsteps, -, hend, hq⟩ := Steps.callFree hM p X.admits X.cas X.clock (acts := []) hfr happ hPc trivial
  have hq' : vx_Q Qc XC mc ms free a (U.calling g mk a) o s₂ := hq
  rw [State.frames_setTop' g h.top] at hend
  obtain ⟨g₀, hg0⟩ := Option.isSome_iff_exists.mp h.top
  obtain ⟨r, hr⟩ := State.topJava?_eq_some.mp hg0
  have hr' : (({ U with heap := s₂.heap, slotsUsed := s₂.slotsUsed } : State).setVm s₂.vm).frames = .java g₀ :: r := hr
  rcases hq' with ⟨hqc, L, hfe, hL⟩ | ⟨q, rfl, E, ce, L, hx, hce, hcv, hcl, hW₂, hsm, hL⟩
  · obtain ⟨⟨v, rfl⟩, hW₂, e2, q2, q3, q4, q5, q6⟩ := id hfe
    have e3 : s₂ = ({ (U.calling g mk a).setFrames s₂.frames with heap := s₂.heap, slotsUsed := s₂.slotsUsed } : State).setVm s₂.vm := by
      have : s₂ = ({ s₂ with vm := (U.calling g mk a).vm } : State).setVm s₂.vm := rfl
      rw [e2] at this
      exact this
    obtain ⟨c₂, i₂, len₂, hc₂, hd₂, hf₂⟩ := hend
    have hW' : U.WarmedH s₂.vm := hW₂
    have hcc : c₂ = c := by
      have h1 : s₂.code? g.method = U.code? g.method := by
        rw [State.code?_eq, State.code?_eq, hW'.alike.method?]
      exact Option.some.inj (hc₂.symm.trans (h1.trans h.code))
    subst hcc
    have hlen : len₂ = len := by rw [hdg] at hd₂; cases hd₂; rfl
    subst hlen
    have hs₂ : s₂ = (({ U with heap := s₂.heap, slotsUsed := s₂.slotsUsed } : State).setVm s₂.vm).setTop { g with pc := g.pc + len₂, stack := v.toList ++ g.stack } := by
      refine e3.trans ?_
      rw [hf₂, State.calling_eq h.top, State.setFrames_setFrames, State.setTop_of_frames _ hr', hr]
      rfl
    have hsame : U.sameButNew ({ U with heap := s₂.heap, slotsUsed := s₂.slotsUsed } : State) L mc ms := by
      refine ⟨?_, q2, q3, q4, q5, q6⟩
      obtain ⟨t, ht, -⟩ := State.frames_cons hr
      show ({ U with heap := s₂.heap, slotsUsed := s₂.slotsUsed } : State) = { U.setFrames U.frames with heap := s₂.heap, slotsUsed := s₂.slotsUsed }
      rw [State.setFrames_self ht]
    subst hg
    refine Or.inl ⟨v, ⟨(({ U with heap := s₂.heap, slotsUsed := s₂.slotsUsed } : State).setVm s₂.vm), Ls ++ L, c0 + mc, s0 + ms⟩,
      ⟨X.admits, X.cas, X.clock, X.frames, X.room, X.hears, X.method, X.code, (X.here.setHeapUsed s₂.heap s₂.slotsUsed).setVm hW'.alike, X.tail, State.WarmedH.trans X.warmed hW', X.limits, X.bytes, X.same.trans (hsame.setVm s.vm)⟩,
      ⟨g, mk, s₂, L, rfl, rfl, hqc, rfl, hL, rfl, rfl⟩, ?_⟩
    show Steps p.tables e below _ ((({ U with heap := s₂.heap, slotsUsed := s₂.slotsUsed } : State).setVm s₂.vm).setTop { g with pc := g.pc + len₂, stack := v.toList ++ g.stack })
    rw [← hs₂]
    exact hsteps
  · obtain ⟨e2, q2, q3, q4, q5, q6⟩ := id hsm
    have e3 : s₂ = ({ (U.calling g mk a).setFrames s₂.frames with heap := s₂.heap, slotsUsed := s₂.slotsUsed } : State).setVm s₂.vm := by
      have : s₂ = ({ s₂ with vm := (U.calling g mk a).vm } : State).setVm s₂.vm := rfl
      rw [e2] at this
      exact this
    have hf₂ : s₂.frames = .throwing q :: .java g :: U.frames.tail := hend
    have hW' : U.WarmedH s₂.vm := hW₂
    have hs₂ : s₂ = ((({ U with heap := s₂.heap, slotsUsed := s₂.slotsUsed } : State).setVm s₂.vm).setTop g).pushFrame (.throwing q) := by
      refine e3.trans ?_
      rw [hf₂, State.calling_eq h.top, State.setFrames_setFrames, State.pushFrame, State.frames_setTop _ hr', State.setTop_of_frames _ hr', State.setFrames_setFrames, hr]
      rfl
    have hsame : U.sameButNew ({ U with heap := s₂.heap, slotsUsed := s₂.slotsUsed } : State) L mc ms := by
      refine ⟨?_, q2, q3, q4, q5, q6⟩
      obtain ⟨t, ht, -⟩ := State.frames_cons hr
      show ({ U with heap := s₂.heap, slotsUsed := s₂.slotsUsed } : State) = { U.setFrames U.frames with heap := s₂.heap, slotsUsed := s₂.slotsUsed }
      rw [State.setFrames_self ht]
    subst hg
    refine Or.inr ⟨q, ⟨(({ U with heap := s₂.heap, slotsUsed := s₂.slotsUsed } : State).setVm s₂.vm), Ls ++ L, c0 + mc, s0 + ms⟩,
      ⟨X.admits, X.cas, X.clock, X.frames, X.room, X.hears, X.method, X.code, (X.here.setHeapUsed s₂.heap s₂.slotsUsed).setVm hW'.alike, X.tail, State.WarmedH.trans X.warmed hW', X.limits, X.bytes, X.same.trans (hsame.setVm s.vm)⟩,
      ⟨g, mk, s₂, L, E, ce, rfl, rfl, hx, hce, hcv, hcl, rfl, hL, rfl, rfl⟩, ?_⟩
    show Steps p.tables e below _ (((({ U with heap := s₂.heap, slotsUsed := s₂.slotsUsed } : State).setVm s₂.vm).setTop g).pushFrame (.throwing q))
    rw [← hs₂]
    exact hsteps
end
variable {p : Program} {l : Launch} {e : Env} {R : Room} {s : State} {m : MethodId} {args : Array Value} {below : List Frame} {meth : Method} {c : Code} {T : State} {H : Heap} {locs : List Loc} {cells slots : Nat}
theorem vx_callVX (X : Stand p l e R s m args below meth c T locs cells slots) (hexec : p.tables.exec = Jvm.exec) {own C : String} {index : Nat} {y : MethodName} {bytes : ByteArray} {maxL : Nat} {ret : Option FieldType} {hh : List (Nat × Nat × Nat × Nat)}
    (hown : s.vm.findClass own = some m.cls) (hlink : (Cond.methodLink own index y).before args s = true) (hinst : (Cond.instanceMethod y).before args s = true) (hsel : (Cond.selects C y y).before args s = true)
    (hcode : (Cond.codeWith y bytes maxL ret hh).before args s = true) (hy : y.cls ≠ "java/lang/invoke/MethodHandle" ∧ y.cls ≠ "java/lang/invoke/VarHandle")
    {W9 : Nat} {Pre : Pt → Array Value → Prop} {Post : Pt → Array Value → Option Value → Pt → Prop} {PostX : Pt → Array Value → Addr → Pt → Prop} (hK : vx_Back l R p e below s args y 3 W9 Pre Post PostX)
    {b : Addr} {cellB : Cell} (hcell : T.heap[b]? = some cellB) (hobj : cellB.vm.isStatics = false) (hcls : s.vm.findClass C = some cellB.cls)
    {g : JFrame} (hg : g.method = m) (hsize : g.locals.size = c.maxLocals) {argsL rest : List Value} (hlen : ∀ sig, parseMethodDescriptor y.desc = some sig → argsL.length = sig.parameters.length)
    (hstack : g.stack = argsL.reverse ++ .ref b :: rest) (hW : 2 * g.monitorRoom + (rest.map fun v => v.category).sum ≤ W9) (hdg : decode c.code g.pc = .ok (.invokevirtual index, 3))
    (hpre : ∀ vm₁, s.WarmedH vm₁ → Pre ⟨T.setVm vm₁, locs, cells, slots⟩ (Value.ref b :: argsL).toArray) :
    (∃ (v : Option Value) (vm₁ : Vm) (B : Pt), s.WarmedH vm₁ ∧ Stand p l e R s m args below meth c B.U B.locs B.cells B.slots ∧ Post ⟨T.setVm vm₁, locs, cells, slots⟩ (Value.ref b :: argsL).toArray v B ∧
      ∀ target, Steps p.tables e below (B.U.setTop { g with pc := g.pc + 3, stack := v.toList ++ rest }) target → Steps p.tables e below (T.setTop g) target) ∨
    (∃ (q : Addr) (vm₁ : Vm) (B : Pt), s.WarmedH vm₁ ∧ Stand p l e R s m args below meth c B.U B.locs B.cells B.slots ∧ PostX ⟨T.setVm vm₁, locs, cells, slots⟩ (Value.ref b :: argsL).toArray q B ∧
      Steps p.tables e below (T.setTop g) ((B.U.setTop { g with stack := rest }).pushFrame (.throwing q))) := by
  obtain ⟨mk, methM, hnamed, hmethM, hstM, habM⟩ := Cond.instanceMethod_spec hinst
  obtain ⟨m8, methM', cM, hn8, hmethM', -, -, -, -, -, -, hsigM⟩ := Cond.codeWith_spec hcode
  cases Option.some.inj (hn8.symm.trans hnamed)
  cases hmethM.symm.trans hmethM'
  obtain ⟨c2, r2, m2, q1, q2, q3, q4, kP, hkP, hkPi⟩ := Cond.selects_spec hsel
  cases hcls.symm.trans q1
  cases (State.methodFound?_of_named hnamed hy).symm.trans q2
  cases hnamed.symm.trans q3
  have hselP : selectMethod e.platform s.vm cellB.cls mk = .method mk := by rw [Launch.admits_selectMethod X.admits]; exact q4
  obtain ⟨vm₁, X₁, hstep₁⟩ := X.invokevirtual hexec hown hlink hnamed hmethM hstM hkP hkPi hy (a := b) (cell := cellB) hcell
    (fun z h => by rw [h] at hobj; cases hobj) hselP hmethM habM hkP hkPi (g := g) hg (argsL := argsL) (rest := rest) (hlen _ hsigM) hstack hdg
  rcases hK m meth c ⟨T.setVm vm₁, locs, cells, slots⟩ { g with stack := rest } (.invokevirtual index) mk (Value.ref b :: argsL).toArray X₁ hg hsize hdg hW (X₁.named hnamed) (hpre vm₁ X₁.warmed) with ⟨v, B, X', hpost, hsteps⟩ | ⟨q, B, X', hpost, hsteps⟩
  · exact Or.inl ⟨v, vm₁, B, X₁.warmed, X', hpost, fun target h => hstep₁ _ fun acts => by rw [doInvoke_state]; exact hsteps.trans h⟩
  · exact Or.inr ⟨q, vm₁, B, X₁.warmed, X', hpost, hstep₁ _ fun acts => by rw [doInvoke_state]; exact hsteps⟩
theorem vx_callSX (X : Stand p l e R s m args below meth c T locs cells slots) (hexec : p.tables.exec = Jvm.exec) {own : String} {index : Nat} {y : MethodName} {bytes : ByteArray} {maxL : Nat} {ret : Option FieldType} {hh : List (Nat × Nat × Nat × Nat)}
    (hown : s.vm.findClass own = some m.cls) (hlink : (Cond.methodLink own index y).before args s = true) (hstat : (Cond.static y).before args s = true) (hinit : (Cond.initialized y.cls).before args s = true)
    (hcode : (Cond.codeWith y bytes maxL ret hh).before args s = true) (hy : y.cls ≠ "java/lang/invoke/MethodHandle" ∧ y.cls ≠ "java/lang/invoke/VarHandle")
    {W9 : Nat} {Pre : Pt → Array Value → Prop} {Post : Pt → Array Value → Option Value → Pt → Prop} {PostX : Pt → Array Value → Addr → Pt → Prop} (hK : vx_Back l R p e below s args y 3 W9 Pre Post PostX)
    {g : JFrame} (hg : g.method = m) (hsize : g.locals.size = c.maxLocals) {argsL rest : List Value} (hlen : ∀ sig, parseMethodDescriptor y.desc = some sig → argsL.length = sig.parameters.length)
    (hstack : g.stack = argsL.reverse ++ rest) (hW : 2 * g.monitorRoom + (rest.map fun v => v.category).sum ≤ W9) (hdg : decode c.code g.pc = .ok (.invokestatic index, 3))
    (hpre : ∀ vm₁, s.WarmedH vm₁ → Pre ⟨T.setVm vm₁, locs, cells, slots⟩ argsL.toArray) :
    (∃ (v : Option Value) (vm₁ : Vm) (B : Pt), s.WarmedH vm₁ ∧ Stand p l e R s m args below meth c B.U B.locs B.cells B.slots ∧ Post ⟨T.setVm vm₁, locs, cells, slots⟩ argsL.toArray v B ∧
      ∀ target, Steps p.tables e below (B.U.setTop { g with pc := g.pc + 3, stack := v.toList ++ rest }) target → Steps p.tables e below (T.setTop g) target) ∨
    (∃ (q : Addr) (vm₁ : Vm) (B : Pt), s.WarmedH vm₁ ∧ Stand p l e R s m args below meth c B.U B.locs B.cells B.slots ∧ PostX ⟨T.setVm vm₁, locs, cells, slots⟩ argsL.toArray q B ∧
      Steps p.tables e below (T.setTop g) ((B.U.setTop { g with stack := rest }).pushFrame (.throwing q))) := by
  obtain ⟨mk, methM, cM, hnamed, hmethM, -, -, -, -, -, -, hsigM⟩ := Cond.codeWith_spec hcode
  have hstatic : methM.isStatic = true := Cond.static_spec hnamed hmethM hstat
  obtain ⟨kP, hkP, -⟩ := className_of_methodNamed hnamed
  have hinitP : kP.init = .initialized := Cond.initialized_spec (findClass_of_methodNamed hnamed) hkP hinit
  obtain ⟨vm₁, X₁, hstep₁⟩ := X.invokestatic hexec hown hlink hnamed hmethM hstatic hkP hinitP hy (g := g) hg (argsL := argsL) (rest := rest) (hlen _ hsigM) hstack hdg
  rcases hK m meth c ⟨T.setVm vm₁, locs, cells, slots⟩ { g with stack := rest } (.invokestatic index) mk argsL.toArray X₁ hg hsize hdg hW (X₁.named hnamed) (hpre vm₁ X₁.warmed) with ⟨v, B, X', hpost, hsteps⟩ | ⟨q, B, X', hpost, hsteps⟩
  · exact Or.inl ⟨v, vm₁, B, X₁.warmed, X', hpost, fun target h => hstep₁ _ fun acts => by rw [doInvoke_state]; exact hsteps.trans h⟩
  · exact Or.inr ⟨q, vm₁, B, X₁.warmed, X', hpost, hstep₁ _ fun acts => by rw [doInvoke_state]; exact hsteps⟩
theorem vx_callVW (X : Stand p l e R s m args below meth c T locs cells slots) (hexec : p.tables.exec = Jvm.exec) {own C : String} {index : Nat} {y : MethodName} {bytes : ByteArray} {maxL : Nat} {ret : Option FieldType} {hh : List (Nat × Nat × Nat × Nat)}
    (hown : s.vm.findClass own = some m.cls) (hlink : (Cond.methodLink own index y).before args s = true) (hinst : (Cond.instanceMethod y).before args s = true) (hsel : (Cond.selects C y y).before args s = true)
    (hcode : (Cond.codeWith y bytes maxL ret hh).before args s = true) (hy : y.cls ≠ "java/lang/invoke/MethodHandle" ∧ y.cls ≠ "java/lang/invoke/VarHandle")
    {W9 : Nat} {Pre : Pt → Array Value → Prop} {Post : Pt → Array Value → Option Value → Pt → Prop} (hK : Back l R p e below s args y 3 W9 Pre Post)
    {b : Addr} {cellB : Cell} (hcell : T.heap[b]? = some cellB) (hobj : cellB.vm.isStatics = false) (hcls : s.vm.findClass C = some cellB.cls)
    {g : JFrame} (hg : g.method = m) (hsize : g.locals.size = c.maxLocals) {argsL rest : List Value} (hlen : ∀ sig, parseMethodDescriptor y.desc = some sig → argsL.length = sig.parameters.length)
    (hstack : g.stack = argsL.reverse ++ .ref b :: rest) (hW : 2 * g.monitorRoom + (rest.map fun v => v.category).sum ≤ W9) (hdg : decode c.code g.pc = .ok (.invokevirtual index, 3))
    (hpre : ∀ vm₁, s.WarmedH vm₁ → Pre ⟨T.setVm vm₁, locs, cells, slots⟩ (Value.ref b :: argsL).toArray) :
    ∃ (v : Option Value) (vm₁ : Vm) (B : Pt), s.WarmedH vm₁ ∧ Stand p l e R s m args below meth c B.U B.locs B.cells B.slots ∧ Post ⟨T.setVm vm₁, locs, cells, slots⟩ (Value.ref b :: argsL).toArray v B ∧
      ∀ target, Steps p.tables e below (B.U.setTop { g with pc := g.pc + 3, stack := v.toList ++ rest }) target → Steps p.tables e below (T.setTop g) target := by
  obtain ⟨mk, methM, hnamed, hmethM, hstM, habM⟩ := Cond.instanceMethod_spec hinst
  obtain ⟨m8, methM', cM, hn8, hmethM', -, -, -, -, -, -, hsigM⟩ := Cond.codeWith_spec hcode
  cases Option.some.inj (hn8.symm.trans hnamed)
  cases hmethM.symm.trans hmethM'
  obtain ⟨c2, r2, m2, q1, q2, q3, q4, kP, hkP, hkPi⟩ := Cond.selects_spec hsel
  cases hcls.symm.trans q1
  cases (State.methodFound?_of_named hnamed hy).symm.trans q2
  cases hnamed.symm.trans q3
  have hselP : selectMethod e.platform s.vm cellB.cls mk = .method mk := by rw [Launch.admits_selectMethod X.admits]; exact q4
  obtain ⟨vm₁, X₁, hstep₁⟩ := X.invokevirtual hexec hown hlink hnamed hmethM hstM hkP hkPi hy (a := b) (cell := cellB) hcell
    (fun z h => by rw [h] at hobj; cases hobj) hselP hmethM habM hkP hkPi (g := g) hg (argsL := argsL) (rest := rest) (hlen _ hsigM) hstack hdg
  obtain ⟨v, B, X', hpost, hsteps⟩ := hK m meth c ⟨T.setVm vm₁, locs, cells, slots⟩ { g with stack := rest } (.invokevirtual index) mk (Value.ref b :: argsL).toArray X₁ hg hsize hdg hW (X₁.named hnamed) (hpre vm₁ X₁.warmed)
  exact ⟨v, vm₁, B, X₁.warmed, X', hpost, fun target h => hstep₁ _ fun acts => by rw [doInvoke_state]; exact hsteps.trans h⟩
abbrev vx_CVW (R : Room) (s : State) (args : Array Value) (own C : String) (index : Nat) (y : MethodName) (bytes : ByteArray) (maxL : Nat) (ret : Option FieldType) (hh : List (Nat × Nat × Nat × Nat)) (ws : List Cond) (rm : Room) (mc ms n : Nat) : Prop :=
  (rm.cells = mc ∧ rm.slots = ms ∧ rm.frames + 1 ≤ R.frames ∧ 8 + (maxL + 11) + rm.locals ≤ R.locals ∧ (∀ w ∈ ws, ∀ (a' : Array Value) (U : State), s.WarmedH U.vm → w.before a' U = true) ∧ Cond.codeWith y bytes maxL ret hh ∈ ws) ∧
  (Cond.codeWith y bytes maxL ret hh).before args s = true ∧ (Cond.initialized y.cls).before args s = true ∧ (y.cls ≠ "java/lang/invoke/MethodHandle" ∧ y.cls ≠ "java/lang/invoke/VarHandle") ∧
  (∀ sig, parseMethodDescriptor y.desc = some sig → n = sig.parameters.length) ∧ (Cond.methodLink own index y).before args s = true ∧ (Cond.instanceMethod y).before args s = true ∧ (Cond.selects C y y).before args s = true
theorem vx_cwVW {own C : String} {index maxL mc ms : Nat} {y : MethodName} {bytes : ByteArray} {ret : Option FieldType} {hh : List (Nat × Nat × Nat × Nat)} {Ts ws ws' : List Cond} {rm : Room} (n : Nat) (ht : ∀ w ∈ Ts, w.before args s = true) (hT : GoodIn Ts (wsV own index C y ws)) (hw : ws = Cond.codeWith y bytes maxL ret hh :: ws') (hrc : rm.cells = mc) (hrs : rm.slots = ms)
    (hd : y.cls = C ∧ y.cls ≠ "java/lang/invoke/MethodHandle" ∧ y.cls ≠ "java/lang/invoke/VarHandle" ∧ (parseMethodDescriptor y.desc).map (fun d => d.parameters.length) = some n) (hR : rm.frames + 1 ≤ R.frames ∧ 8 + (maxL + 11) + rm.locals ≤ R.locals) :
    vx_CVW R s args own C index y bytes maxL ret hh ws rm mc ms n := by
  obtain ⟨hC, hd⟩ := hd
  subst hC
  have ok : ∀ w ∈ wsV own index y.cls y ws, w.before args s = true := fun w h => ht w (hT w h).1
  have hG : GoodIn Ts ws := fun w h => hT w (by unfold wsV; exact List.mem_append_right _ h)
  have hc : Cond.codeWith y bytes maxL ret hh ∈ ws := by rw [hw]; exact List.mem_cons_self
  refine ⟨⟨hrc, hrs, hR.1, hR.2, pay_in ht hG, hc⟩, ht _ (hG _ hc).1, ok _ (by simp [wsV]), ⟨hd.1, hd.2.1⟩, fun sig h => ?_, ok _ (by simp [wsV]), ok _ (by simp [wsV]), ok _ (by simp [wsV])⟩
  have h2 := hd.2.2
  rw [h] at h2
  exact (Option.some.inj h2).symm
theorem vx_runVW {y : MethodName} {bytes cc : ByteArray} {maxL nL mc ms n index : Nat} {ret : Option FieldType} {hh : List (Nat × Nat × Nat × Nat)} {ws : List Cond} {rm : Room} {Pc : Array Value → State → Prop} {Qc : Array Value → State → Outcome → State → Prop} {free : Addr → Prop} {Ts : List Cond} {own C : String} {b : Addr} {As rest : List Value} {g : JFrame}
    (S : CallFix p m c cc nL s args Ts own) (hM : Met l y ws rm Pc Qc mc ms free) (cw : vx_CVW R s args own C index y bytes maxL ret hh ws rm mc ms n) (hp : PreV s H C b Pc As)
    (hg : g.method = m) (hn : As.length = n) (hsize : g.locals.size = nL) (hstack : g.stack = As.reverse ++ .ref b :: rest) (hW : 2 * g.monitorRoom + (rest.map fun v => v.category).sum ≤ 8) (hdg : decode cc g.pc = .ok (.invokevirtual index, 3)) (hf : cells + mc ≤ R.cells ∧ slots + ms ≤ R.slots) :
    va_Run p l e R s m args below meth c H locs cells slots mc ms g rest (Qc (Value.ref b :: As).toArray) free := by
  obtain ⟨⟨hrc, hrs, hfr, hlo, hws, hcw⟩, hcode, hini, hy, hlen, hl, hin, hse⟩ := cw
  have hK : Back l R p e below s args y 3 8 (PreOf R mc ms Pc) (PostOf Qc mc ms free) := va_backW (hh := hh) (bytes := bytes) (maxL := maxL) (ret := ret) hM hp.1 hrc hrs hfr hlo hws hcw (fun a' U hW => word_at hW (Or.inl (by first | rfl | simp [Cond.onTables, Cond.keeps, Cond.steady])) hini)
  obtain ⟨hx, hb, hml, ho, -⟩ := S
  obtain ⟨-, ⟨cellB, hcB, hoB, hclB⟩, hPc⟩ := hp
  intro T hT X
  obtain ⟨v, vm₁, ⟨U', l2, c2, s2⟩, hW₁, X', ⟨g', mk, t, L, e1, e2, hq, h1, hL, h2, h3⟩, st⟩ := vx_callVW X hx (C := C) (hh := hh) (bytes := bytes) (maxL := maxL) (ret := ret) ho hl hin hse hcode hy hK (by rw [hT]; exact hcB) hoB hclB hg (hsize.trans hml.symm) (argsL := As) (rest := rest) (fun sig h => hn.trans (hlen sig h)) hstack hW (by rw [hb]; exact hdg)
    (fun vm₁ hW₁ => ⟨hf.1, hf.2, hPc (T.setVm vm₁) hT hW₁⟩)
  dsimp only [Pt.U, Pt.locs, Pt.cells, Pt.slots] at X' e1 e2 h1 h2 h3 st
  subst h1; subst h2; subst h3
  exact ⟨v, (T.setVm vm₁).calling g' mk (Value.ref b :: As).toArray, t, U', L, hT, X', hL, e1, e2, hq, st⟩
section
variable {y : MethodName} {bytes cc : ByteArray} {maxL nL mc ms n index : Nat} {ret : Option FieldType} {ws : List Cond} {rm : Room} {Pc : Array Value → State → Prop} {Qc : Array Value → State → Outcome → State → Prop} {XC : String → State → State → Prop} {free : Addr → Prop} {Ts : List Cond} {own C : String} {b : Addr} {As rest : List Value} {g : JFrame}
theorem vx_runVX {hh : List (Nat × Nat × Nat × Nat)} (S : CallFix p m c cc nL s args Ts own) (hM : vx_Met l y ws rm Pc Qc XC mc ms free) (cw : vx_CVW R s args own C index y bytes maxL ret hh ws rm mc ms n) (hp : PreV s H C b Pc As)
    (hg : g.method = m) (hn : As.length = n) (hsize : g.locals.size = nL) (hstack : g.stack = As.reverse ++ .ref b :: rest) (hW : 2 * g.monitorRoom + (rest.map fun v => v.category).sum ≤ 8) (hdg : decode cc g.pc = .ok (.invokevirtual index, 3)) (hf : cells + mc ≤ R.cells ∧ slots + ms ≤ R.slots) :
    vx_Run p l e R s m args below meth c H locs cells slots mc ms g rest (Qc (Value.ref b :: As).toArray) XC free := by
  obtain ⟨⟨hrc, hrs, hfr, hlo, hws, hcw⟩, hcode, hini, hy, hlen, hl, hin, hse⟩ := cw
  have hK : vx_Back l R p e below s args y 3 8 (PreOf R mc ms Pc) (PostOf Qc mc ms free) (vx_Post XC mc ms free) := vx_backW (hh := hh) (bytes := bytes) (maxL := maxL) (ret := ret) hM hp.1 hrc hrs hfr hlo hws hcw (fun a' U hW => word_at hW (Or.inl (by first | rfl | simp [Cond.onTables, Cond.keeps, Cond.steady])) hini)
  obtain ⟨hx, hb, hml, ho, -⟩ := S
  obtain ⟨-, ⟨cellB, hcB, hoB, hclB⟩, hPc⟩ := hp
  intro T hT X
  rcases vx_callVX X hx (C := C) (hh := hh) (bytes := bytes) (maxL := maxL) (ret := ret) ho hl hin hse hcode hy hK (by rw [hT]; exact hcB) hoB hclB hg (hsize.trans hml.symm) (argsL := As) (rest := rest) (fun sig h => hn.trans (hlen sig h)) hstack hW (by rw [hb]; exact hdg)
    (fun vm₁ hW₁ => ⟨hf.1, hf.2, hPc (T.setVm vm₁) hT hW₁⟩) with ⟨v, vm₁, ⟨U', l2, c2, s2⟩, hW₁, X', ⟨g', mk, t, L, e1, e2, hq, h1, hL, h2, h3⟩, st⟩ | ⟨q, vm₁, ⟨U', l2, c2, s2⟩, hW₁, X', ⟨g', mk, t, L, E, ce, e1, e2, hq, hce, hcv, hcl, h1, hL, h2, h3⟩, st⟩
  · dsimp only [Pt.U, Pt.locs, Pt.cells, Pt.slots] at X' e1 e2 h1 h2 h3 st
    subst h1; subst h2; subst h3
    exact Or.inl ⟨v, (T.setVm vm₁).calling g' mk (Value.ref b :: As).toArray, t, U', L, hT, X', hL, e1, e2, hq, st⟩
  · dsimp only [Pt.U, Pt.locs, Pt.cells, Pt.slots] at X' e1 e2 h1 h2 h3 st hcl
    subst h1; subst h2; subst h3
    exact Or.inr ⟨q, (T.setVm vm₁).calling g' mk (Value.ref b :: As).toArray, t, U', L, E, ce, hT, X', hL, e1, e2, hq, hce, hcv, vx_cls hW₁ hcl, st⟩
theorem vx_runSX {hh : List (Nat × Nat × Nat × Nat)} (S : CallFix p m c cc nL s args Ts own) (hM : vx_Met l y ws rm Pc Qc XC mc ms free) (cw : vx_CSW R s args own index y bytes maxL ret hh ws rm mc ms n) (hp : PreS s H Pc As)
    (hg : g.method = m) (hn : As.length = n) (hsize : g.locals.size = nL) (hstack : g.stack = As.reverse ++ rest) (hW : 2 * g.monitorRoom + (rest.map fun v => v.category).sum ≤ 8) (hdg : decode cc g.pc = .ok (.invokestatic index, 3)) (hf : cells + mc ≤ R.cells ∧ slots + ms ≤ R.slots) :
    vx_Run p l e R s m args below meth c H locs cells slots mc ms g rest (Qc As.toArray) XC free := by
  obtain ⟨⟨hrc, hrs, hfr, hlo, hws, hcw⟩, hcode, hini, hy, hlen, hl, hstt⟩ := cw
  have hK : vx_Back l R p e below s args y 3 8 (PreOf R mc ms Pc) (PostOf Qc mc ms free) (vx_Post XC mc ms free) := vx_backW (hh := hh) (bytes := bytes) (maxL := maxL) (ret := ret) hM hp.1 hrc hrs hfr hlo hws hcw (fun a' U hW => word_at hW (Or.inl (by first | rfl | simp [Cond.onTables, Cond.keeps, Cond.steady])) hini)
  obtain ⟨hx, hb, hml, ho, -⟩ := S
  intro T hT X
  rcases vx_callSX X hx (hh := hh) (bytes := bytes) (maxL := maxL) (ret := ret) ho hl hstt hini hcode hy hK hg (hsize.trans hml.symm) (argsL := As) (rest := rest) (fun sig h => hn.trans (hlen sig h)) hstack hW (by rw [hb]; exact hdg)
    (fun vm₁ hW₁ => ⟨hf.1, hf.2, hp.2 (T.setVm vm₁) hT hW₁⟩) with ⟨v, vm₁, ⟨U', l2, c2, s2⟩, hW₁, X', ⟨g', mk, t, L, e1, e2, hq, h1, hL, h2, h3⟩, st⟩ | ⟨q, vm₁, ⟨U', l2, c2, s2⟩, hW₁, X', ⟨g', mk, t, L, E, ce, e1, e2, hq, hce, hcv, hcl, h1, hL, h2, h3⟩, st⟩
  · dsimp only [Pt.U, Pt.locs, Pt.cells, Pt.slots] at X' e1 e2 h1 h2 h3 st
    subst h1; subst h2; subst h3
    exact Or.inl ⟨v, (T.setVm vm₁).calling g' mk As.toArray, t, U', L, hT, X', hL, e1, e2, hq, st⟩
  · dsimp only [Pt.U, Pt.locs, Pt.cells, Pt.slots] at X' e1 e2 h1 h2 h3 st hcl
    subst h1; subst h2; subst h3
    exact Or.inr ⟨q, (T.setVm vm₁).calling g' mk As.toArray, t, U', L, E, ce, hT, X', hL, e1, e2, hq, hce, hcv, vx_cls hW₁ hcl, st⟩
end
end VXH
theorem vx_ofWH {l : Launch} {y : MethodName} {ws ws' : List Cond} {rm : Room} {Pc : Array Value → State → Prop} {Qc : Array Value → State → Outcome → State → Prop} {XC : String → State → State → Prop} {mc ms : Nat} {free : Addr → Prop} {cc : ByteArray} {maxL : Nat} {ret : Option FieldType} {hh : List (Nat × Nat × Nat × Nat)}
    (hy : plainName y.cls = true) (hw : ws = Cond.codeWith y cc maxL ret hh :: ws')
    (body : ∀ p e s m args below meth c s₁, BodyLoose p l y (headSpec ws rm) cc maxL ret e s m args below meth c s₁ → c.maxLocals = maxL → Pc args s →
      W p l e (headSpec ws rm).room s m args below meth c s.heap [] 0 0 (vx_MQ below Qc XC args s mc ms free) (entryFrame m args maxL)) : vx_Met l y ws rm Pc Qc XC mc ms free := by
  refine MetFree.of_bodyS (code := cc) (maxLocals := maxL) (ret := ret) hy ?_ ?_
  · intro args s m h hn
    obtain ⟨m9, meth, c, hn9, h1, h2, h3, h4, -, h5, h6, -⟩ := Cond.codeWith_spec (atoms_spec (ws := ws) h _ (by rw [hw]; exact List.mem_cons_self))
    cases hn.symm.trans hn9
    exact ⟨meth, c, h1, h2, h3, h4, h5, h6⟩
  · intro p e s m args below meth c s₁ B hml hP _
    have hh0 : s₁.heap = s.heap := by rw [B.state]; rfl
    obtain ⟨t, a1, o, b1, b2, b3⟩ := body p e s m args below meth c s₁ B hml hP s₁ hh0 (Stand.of_body B)
    exact ⟨t, o, a1, b1, b2, b3⟩
/-! ===== END ===== -/
end
section
def RX0 : String := "ArmsBook$Copies"
def TX0 : u_T := fun k => match k with
  | 0 => ("ArmsBook$Copies", "years", "[I", true)
  | 1 => ("ArmsBook$Copies", "rows", "[I", true)
  | _ => ("ArmsBook$Copies", "size", "I", false)
def tyX0 : Nat → FieldType := fun k => match k with
  | 0 => .array .int
  | 1 => .array .int
  | _ => .int
abbrev wsX00 : List Cond := u_ws RX0 TX0 3
theorem nmX0 : ∀ a, a < 3 → ∀ b, b < 3 → a ≠ b → (TX0 a).2.1 ≠ (TX0 b).2.1 := by decide +kernel
theorem tyX0_ok : ∀ k, k < 3 → parseFieldDescriptor (TX0 k).2.2.1 = some (tyX0 k) := by decide +kernel
abbrev cX0_init : ByteArray := prog_2_method_1_code
def yX0_init : MethodName := ⟨RX0, "<init>", "()V"⟩
abbrev cX0_has : ByteArray := prog_2_method_2_code
def yX0_has : MethodName := ⟨RX0, "has", "(I)Z"⟩
abbrev cX0_add : ByteArray := prog_2_method_3_code
def yX0_add : MethodName := ⟨RX0, "add", "(II)I"⟩
abbrev cX0_yearOf : ByteArray := prog_2_method_4_code
def yX0_yearOf : MethodName := ⟨RX0, "yearOf", "(I)I"⟩
abbrev cX0_rowOf : ByteArray := prog_2_method_5_code
def yX0_rowOf : MethodName := ⟨RX0, "rowOf", "(I)I"⟩
abbrev cX0_changes : ByteArray := prog_2_method_6_code
def yX0_changes : MethodName := ⟨RX0, "changes", "(II)I"⟩
abbrev cX0_sourceOf : ByteArray := prog_2_method_7_code
def yX0_sourceOf : MethodName := ⟨RX0, "sourceOf", "(I)I"⟩
abbrev cX0_changesOf : ByteArray := prog_2_method_8_code
def yX0_changesOf : MethodName := ⟨RX0, "changesOf", "(I)I"⟩
abbrev cX0_driftOf : ByteArray := prog_2_method_9_code
def yX0_driftOf : MethodName := ⟨RX0, "driftOf", "(I)I"⟩
abbrev cX0_originalOf : ByteArray := prog_2_method_10_code
def yX0_originalOf : MethodName := ⟨RX0, "originalOf", "(I)I"⟩
abbrev cX0_takenFrom : ByteArray := prog_2_method_11_code
def yX0_takenFrom : MethodName := ⟨RX0, "takenFrom", "(I)I"⟩
def RX1 : String := "ArmsBook$Grants"
def TX1 : u_T := fun k => match k with
  | 0 => ("ArmsBook$Grants", "holder", "[I", true)
  | 1 => ("ArmsBook$Grants", "arms", "[I", true)
  | 2 => ("ArmsBook$Grants", "from", "[I", true)
  | _ => ("ArmsBook$Grants", "size", "I", false)
def tyX1 : Nat → FieldType := fun k => match k with
  | 0 => .array .int
  | 1 => .array .int
  | 2 => .array .int
  | _ => .int
abbrev wsX10 : List Cond := u_ws RX1 TX1 4
theorem nmX1 : ∀ a, a < 4 → ∀ b, b < 4 → a ≠ b → (TX1 a).2.1 ≠ (TX1 b).2.1 := by decide +kernel
theorem tyX1_ok : ∀ k, k < 4 → parseFieldDescriptor (TX1 k).2.2.1 = some (tyX1 k) := by decide +kernel
abbrev cX1_init : ByteArray := prog_3_method_1_code
def yX1_init : MethodName := ⟨RX1, "<init>", "()V"⟩
abbrev cX1_add : ByteArray := prog_3_method_2_code
def yX1_add : MethodName := ⟨RX1, "add", "(III)I"⟩
abbrev cX1_ownArms : ByteArray := prog_3_method_3_code
def yX1_ownArms : MethodName := ⟨RX1, "ownArms", "(II)I"⟩
def RX2 : String := "ArmsBook$Office"
def TX2 : u_T := fun k => match k with
  | 0 => ("ArmsBook$Office", "texts", "[LArmsBook$Text;", true)
  | 1 => ("ArmsBook$Office", "names", "[I", true)
  | 2 => ("ArmsBook$Office", "operands", "[I", true)
  | 3 => ("ArmsBook$Office", "size", "I", false)
  | 4 => ("ArmsBook$Office", "open", "I", false)
  | 5 => ("ArmsBook$Office", "refuses", "Z", false)
  | 6 => ("ArmsBook$Office", "differs", "Z", false)
  | _ => ("ArmsBook$Office", "fees", "I", false)
def tyX2 : Nat → FieldType := fun k => match k with
  | 0 => .array (.object "ArmsBook$Text")
  | 1 => .array .int
  | 2 => .array .int
  | 3 => .int
  | 4 => .int
  | 5 => .boolean
  | 6 => .boolean
  | _ => .int
abbrev wsX20 : List Cond := u_ws RX2 TX2 8
theorem nmX2 : ∀ a, a < 8 → ∀ b, b < 8 → a ≠ b → (TX2 a).2.1 ≠ (TX2 b).2.1 := by decide +kernel
theorem tyX2_ok : ∀ k, k < 8 → parseFieldDescriptor (TX2 k).2.2.1 = some (tyX2 k) := by decide +kernel
abbrev cX2_init : ByteArray := prog_4_method_1_code
def yX2_init : MethodName := ⟨RX2, "<init>", "()V"⟩
abbrev cX2_isFull : ByteArray := prog_4_method_2_code
def yX2_isFull : MethodName := ⟨RX2, "isFull", "()Z"⟩
abbrev cX2_add : ByteArray := prog_4_method_3_code
def yX2_add : MethodName := ⟨RX2, "add", "([II)I"⟩
abbrev cX2_setName : ByteArray := prog_4_method_4_code
def yX2_setName : MethodName := ⟨RX2, "setName", "(II)V"⟩
abbrev cX2_nameValue : ByteArray := prog_4_method_5_code
def yX2_nameValue : MethodName := ⟨RX2, "nameValue", "(I)I"⟩
abbrev cX2_judge : ByteArray := prog_4_method_6_code
def yX2_judge : MethodName := ⟨RX2, "judge", "(I)V"⟩
abbrev cX2_inForce : ByteArray := prog_4_method_7_code
def yX2_inForce : MethodName := ⟨RX2, "inForce", "(I)LArmsBook$Text;"⟩
abbrev cX2_push : ByteArray := prog_4_method_8_code
def yX2_push : MethodName := ⟨RX2, "push", "(I)V"⟩
abbrev cX2_pop : ByteArray := prog_4_method_9_code
def yX2_pop : MethodName := ⟨RX2, "pop", "()I"⟩
abbrev cX2_work : ByteArray := prog_4_method_10_code
def yX2_work : MethodName := ⟨RX2, "work", "(I)V"⟩
abbrev cX2_joined : ByteArray := prog_4_method_11_code
def yX2_joined : MethodName := ⟨RX2, "joined", "(III)I"⟩
def RX3 : String := "ArmsBook$Parser"
def TX3 : u_T := fun k => match k with
  | 0 => ("ArmsBook$Parser", "scanner", "LArmsBook$Scanner;", true)
  | 1 => ("ArmsBook$Parser", "code", "[I", true)
  | 2 => ("ArmsBook$Parser", "codeSize", "I", false)
  | 3 => ("ArmsBook$Parser", "at", "I", false)
  | 4 => ("ArmsBook$Parser", "token", "I", false)
  | 5 => ("ArmsBook$Parser", "fault", "I", false)
  | _ => ("ArmsBook$Parser", "place", "I", false)
def tyX3 : Nat → FieldType := fun k => match k with
  | 0 => .object "ArmsBook$Scanner"
  | 1 => .array .int
  | 2 => .int
  | 3 => .int
  | 4 => .int
  | 5 => .int
  | _ => .int
abbrev wsX30 : List Cond := u_ws RX3 TX3 7
theorem nmX3 : ∀ a, a < 7 → ∀ b, b < 7 → a ≠ b → (TX3 a).2.1 ≠ (TX3 b).2.1 := by decide +kernel
theorem tyX3_ok : ∀ k, k < 7 → parseFieldDescriptor (TX3 k).2.2.1 = some (tyX3 k) := by decide +kernel
abbrev cX3_init : ByteArray := prog_5_method_1_code
def yX3_init : MethodName := ⟨RX3, "<init>", "()V"⟩
abbrev cX3_parse : ByteArray := prog_5_method_2_code
def yX3_parse : MethodName := ⟨RX3, "parse", "([BI)V"⟩
abbrev cX3_code : ByteArray := prog_5_method_3_code
def yX3_code : MethodName := ⟨RX3, "code", "()[I"⟩
abbrev cX3_advance : ByteArray := prog_5_method_4_code
def yX3_advance : MethodName := ⟨RX3, "advance", "()V"⟩
abbrev cX3_blame : ByteArray := prog_5_method_5_code
def yX3_blame : MethodName := ⟨RX3, "blame", "(I)V"⟩
abbrev cX3_emit : ByteArray := prog_5_method_6_code
def yX3_emit : MethodName := ⟨RX3, "emit", "(I)V"⟩
abbrev cX3_readRule : ByteArray := prog_5_method_7_code
def yX3_readRule : MethodName := ⟨RX3, "readRule", "(I)V"⟩
abbrev cX3_readExpression : ByteArray := prog_5_method_8_code
def yX3_readExpression : MethodName := ⟨RX3, "readExpression", "(I)V"⟩
abbrev cX3_canBeginExpression : ByteArray := prog_5_method_9_code
def yX3_canBeginExpression : MethodName := ⟨RX3, "canBeginExpression", "()Z"⟩
abbrev cX3_readTest : ByteArray := prog_5_method_10_code
def yX3_readTest : MethodName := ⟨RX3, "readTest", "(I)V"⟩
abbrev cX3_readSum : ByteArray := prog_5_method_11_code
def yX3_readSum : MethodName := ⟨RX3, "readSum", "(I)V"⟩
abbrev cX3_readPart : ByteArray := prog_5_method_12_code
def yX3_readPart : MethodName := ⟨RX3, "readPart", "(I)V"⟩
def RX4 : String := "ArmsBook$People"
def TX4 : u_T := fun k => match k with
  | 0 => ("ArmsBook$People", "female", "[Z", true)
  | 1 => ("ArmsBook$People", "born", "[I", true)
  | 2 => ("ArmsBook$People", "toldDeath", "[I", true)
  | 3 => ("ArmsBook$People", "lastYear", "[I", true)
  | 4 => ("ArmsBook$People", "father", "[I", true)
  | 5 => ("ArmsBook$People", "mother", "[I", true)
  | 6 => ("ArmsBook$People", "fatherGrade", "[I", true)
  | 7 => ("ArmsBook$People", "motherGrade", "[I", true)
  | _ => ("ArmsBook$People", "size", "I", false)
def tyX4 : Nat → FieldType := fun k => match k with
  | 0 => .array .boolean
  | 1 => .array .int
  | 2 => .array .int
  | 3 => .array .int
  | 4 => .array .int
  | 5 => .array .int
  | 6 => .array .int
  | 7 => .array .int
  | _ => .int
abbrev wsX40 : List Cond := u_ws RX4 TX4 9
theorem nmX4 : ∀ a, a < 9 → ∀ b, b < 9 → a ≠ b → (TX4 a).2.1 ≠ (TX4 b).2.1 := by decide +kernel
theorem tyX4_ok : ∀ k, k < 9 → parseFieldDescriptor (TX4 k).2.2.1 = some (tyX4 k) := by decide +kernel
abbrev cX4_init : ByteArray := prog_6_method_1_code
def yX4_init : MethodName := ⟨RX4, "<init>", "()V"⟩
abbrev cX4_isIn : ByteArray := prog_6_method_2_code
def yX4_isIn : MethodName := ⟨RX4, "isIn", "(JI)Z"⟩
abbrev cX4_has : ByteArray := prog_6_method_3_code
def yX4_has : MethodName := ⟨RX4, "has", "(I)Z"⟩
abbrev cX4_add : ByteArray := prog_6_method_4_code
def yX4_add : MethodName := ⟨RX4, "add", "(ZII)I"⟩
abbrev cX4_canDie : ByteArray := prog_6_method_5_code
def yX4_canDie : MethodName := ⟨RX4, "canDie", "(II)Z"⟩
abbrev cX4_tellFather : ByteArray := prog_6_method_6_code
def yX4_tellFather : MethodName := ⟨RX4, "tellFather", "(III)Z"⟩
abbrev cX4_tellMother : ByteArray := prog_6_method_7_code
def yX4_tellMother : MethodName := ⟨RX4, "tellMother", "(III)Z"⟩
abbrev cX4_isGrade : ByteArray := prog_6_method_8_code
def yX4_isGrade : MethodName := ⟨RX4, "isGrade", "(I)Z"⟩
abbrev cX4_canBeFather : ByteArray := prog_6_method_9_code
def yX4_canBeFather : MethodName := ⟨RX4, "canBeFather", "(II)Z"⟩
abbrev cX4_canBeMother : ByteArray := prog_6_method_10_code
def yX4_canBeMother : MethodName := ⟨RX4, "canBeMother", "(II)Z"⟩
abbrev cX4_isFemale : ByteArray := prog_6_method_11_code
def yX4_isFemale : MethodName := ⟨RX4, "isFemale", "(I)Z"⟩
abbrev cX4_bornOf : ByteArray := prog_6_method_12_code
def yX4_bornOf : MethodName := ⟨RX4, "bornOf", "(I)I"⟩
abbrev cX4_toldDeathOf : ByteArray := prog_6_method_13_code
def yX4_toldDeathOf : MethodName := ⟨RX4, "toldDeathOf", "(I)I"⟩
abbrev cX4_fatherOf : ByteArray := prog_6_method_14_code
def yX4_fatherOf : MethodName := ⟨RX4, "fatherOf", "(I)I"⟩
abbrev cX4_motherOf : ByteArray := prog_6_method_15_code
def yX4_motherOf : MethodName := ⟨RX4, "motherOf", "(I)I"⟩
abbrev cX4_fatherGradeOf : ByteArray := prog_6_method_16_code
def yX4_fatherGradeOf : MethodName := ⟨RX4, "fatherGradeOf", "(I)I"⟩
abbrev cX4_motherGradeOf : ByteArray := prog_6_method_17_code
def yX4_motherGradeOf : MethodName := ⟨RX4, "motherGradeOf", "(I)I"⟩
abbrev cX4_isLiving : ByteArray := prog_6_method_18_code
def yX4_isLiving : MethodName := ⟨RX4, "isLiving", "(II)Z"⟩
abbrev cX4_childrenOf : ByteArray := prog_6_method_19_code
def yX4_childrenOf : MethodName := ⟨RX4, "childrenOf", "(I)I"⟩
abbrev cX4_livingLines : ByteArray := prog_6_method_20_code
def yX4_livingLines : MethodName := ⟨RX4, "livingLines", "(I)J"⟩
abbrev cX4_isElder : ByteArray := prog_6_method_21_code
def yX4_isElder : MethodName := ⟨RX4, "isElder", "(II)Z"⟩
abbrev cX4_placeOf : ByteArray := prog_6_method_22_code
def yX4_placeOf : MethodName := ⟨RX4, "placeOf", "(IJ)I"⟩
abbrev cX4_headOf : ByteArray := prog_6_method_23_code
def yX4_headOf : MethodName := ⟨RX4, "headOf", "(II)I"⟩
abbrev cX4_heirOf : ByteArray := prog_6_method_24_code
def yX4_heirOf : MethodName := ⟨RX4, "heirOf", "(IJ)I"⟩
abbrev cX4_isHeiress : ByteArray := prog_6_method_25_code
def yX4_isHeiress : MethodName := ⟨RX4, "isHeiress", "(IIJ)Z"⟩
abbrev cX4_bringsQuarters : ByteArray := prog_6_method_26_code
def yX4_bringsQuarters : MethodName := ⟨RX4, "bringsQuarters", "(IIJ)Z"⟩
abbrev cX4_forebears : ByteArray := prog_6_method_27_code
def yX4_forebears : MethodName := ⟨RX4, "forebears", "(I)J"⟩
def RX5 : String := "ArmsBook$Proof"
def TX5 : u_T := fun k => match k with
  | 0 => ("ArmsBook$Proof", "marks", "[I", true)
  | 1 => ("ArmsBook$Proof", "arms", "I", false)
  | 2 => ("ArmsBook$Proof", "root", "I", false)
  | 3 => ("ArmsBook$Proof", "steps", "I", false)
  | 4 => ("ArmsBook$Proof", "grade", "I", false)
  | _ => ("ArmsBook$Proof", "marksAboveOne", "I", false)
def tyX5 : Nat → FieldType := fun k => match k with
  | 0 => .array .int
  | 1 => .int
  | 2 => .int
  | 3 => .int
  | 4 => .int
  | _ => .int
abbrev wsX50 : List Cond := u_ws RX5 TX5 6
theorem nmX5 : ∀ a, a < 6 → ∀ b, b < 6 → a ≠ b → (TX5 a).2.1 ≠ (TX5 b).2.1 := by decide +kernel
theorem tyX5_ok : ∀ k, k < 6 → parseFieldDescriptor (TX5 k).2.2.1 = some (tyX5 k) := by decide +kernel
abbrev cX5_init : ByteArray := prog_7_method_1_code
def yX5_init : MethodName := ⟨RX5, "<init>", "()V"⟩
abbrev cX5_find : ByteArray := prog_7_method_2_code
def yX5_find : MethodName := ⟨RX5, "find", "(LArmsBook$People;LArmsBook$Grants;II)V"⟩
abbrev cX5_climb : ByteArray := prog_7_method_3_code
def yX5_climb : MethodName := ⟨RX5, "climb", "(LArmsBook$People;LArmsBook$Grants;II)V"⟩
abbrev cX5_setMarks : ByteArray := prog_7_method_4_code
def yX5_setMarks : MethodName := ⟨RX5, "setMarks", "(LArmsBook$People;IJ)V"⟩
abbrev cX5_markAt : ByteArray := prog_7_method_5_code
def yX5_markAt : MethodName := ⟨RX5, "markAt", "(I)I"⟩
abbrev cX5_isPlain : ByteArray := prog_7_method_6_code
def yX5_isPlain : MethodName := ⟨RX5, "isPlain", "()Z"⟩
def RX6 : String := "ArmsBook$Quarters"
def TX6 : u_T := fun k => match k with
  | 0 => ("ArmsBook$Quarters", "rows", "[I", true)
  | _ => ("ArmsBook$Quarters", "sizes", "[I", true)
def tyX6 : Nat → FieldType := fun k => match k with
  | 0 => .array .int
  | _ => .array .int
abbrev wsX60 : List Cond := u_ws RX6 TX6 2
theorem nmX6 : ∀ a, a < 2 → ∀ b, b < 2 → a ≠ b → (TX6 a).2.1 ≠ (TX6 b).2.1 := by decide +kernel
theorem tyX6_ok : ∀ k, k < 2 → parseFieldDescriptor (TX6 k).2.2.1 = some (tyX6 k) := by decide +kernel
abbrev cX6_init : ByteArray := prog_8_method_1_code
def yX6_init : MethodName := ⟨RX6, "<init>", "()V"⟩
abbrev cX6_fill : ByteArray := prog_8_method_2_code
def yX6_fill : MethodName := ⟨RX6, "fill", "(LArmsBook$People;LArmsBook$Grants;II)V"⟩
abbrev cX6_addRow : ByteArray := prog_8_method_3_code
def yX6_addRow : MethodName := ⟨RX6, "addRow", "(II)V"⟩
abbrev cX6_addArms : ByteArray := prog_8_method_4_code
def yX6_addArms : MethodName := ⟨RX6, "addArms", "(II)V"⟩
abbrev cX6_isPlace : ByteArray := prog_8_method_5_code
def yX6_isPlace : MethodName := ⟨RX6, "isPlace", "(II)Z"⟩
abbrev cX6_sizeOf : ByteArray := prog_8_method_6_code
def yX6_sizeOf : MethodName := ⟨RX6, "sizeOf", "(I)I"⟩
abbrev cX6_armsAt : ByteArray := prog_8_method_7_code
def yX6_armsAt : MethodName := ⟨RX6, "armsAt", "(II)I"⟩
def RX7 : String := "ArmsBook$Scanner"
def TX7 : u_T := fun k => match k with
  | 0 => ("ArmsBook$Scanner", "tokens", "[I", true)
  | 1 => ("ArmsBook$Scanner", "starts", "[I", true)
  | _ => ("ArmsBook$Scanner", "size", "I", false)
def tyX7 : Nat → FieldType := fun k => match k with
  | 0 => .array .int
  | 1 => .array .int
  | _ => .int
abbrev wsX70 : List Cond := u_ws RX7 TX7 3
theorem nmX7 : ∀ a, a < 3 → ∀ b, b < 3 → a ≠ b → (TX7 a).2.1 ≠ (TX7 b).2.1 := by decide +kernel
theorem tyX7_ok : ∀ k, k < 3 → parseFieldDescriptor (TX7 k).2.2.1 = some (tyX7 k) := by decide +kernel
abbrev cX7_init : ByteArray := prog_9_method_1_code
def yX7_init : MethodName := ⟨RX7, "<init>", "()V"⟩
abbrev cX7_isName : ByteArray := prog_9_method_2_code
def yX7_isName : MethodName := ⟨RX7, "isName", "(I)Z"⟩
abbrev cX7_isNumber : ByteArray := prog_9_method_3_code
def yX7_isNumber : MethodName := ⟨RX7, "isNumber", "(I)Z"⟩
abbrev cX7_isOtherThanName : ByteArray := prog_9_method_4_code
def yX7_isOtherThanName : MethodName := ⟨RX7, "isOtherThanName", "(I)Z"⟩
abbrev cX7_scan : ByteArray := prog_9_method_5_code
def yX7_scan : MethodName := ⟨RX7, "scan", "([BI)V"⟩
abbrev cX7_put : ByteArray := prog_9_method_6_code
def yX7_put : MethodName := ⟨RX7, "put", "(II)V"⟩
abbrev cX7_scanOne : ByteArray := prog_9_method_7_code
def yX7_scanOne : MethodName := ⟨RX7, "scanOne", "([BII)I"⟩
abbrev cX7_isLetter : ByteArray := prog_9_method_8_code
def yX7_isLetter : MethodName := ⟨RX7, "isLetter", "(I)Z"⟩
abbrev cX7_isDigit : ByteArray := prog_9_method_9_code
def yX7_isDigit : MethodName := ⟨RX7, "isDigit", "(I)Z"⟩
abbrev cX7_isSign : ByteArray := prog_9_method_10_code
def yX7_isSign : MethodName := ⟨RX7, "isSign", "(I)Z"⟩
abbrev cX7_behindLetters : ByteArray := prog_9_method_11_code
def yX7_behindLetters : MethodName := ⟨RX7, "behindLetters", "([BII)I"⟩
abbrev cX7_behindDigits : ByteArray := prog_9_method_12_code
def yX7_behindDigits : MethodName := ⟨RX7, "behindDigits", "([BII)I"⟩
abbrev cX7_numberToken : ByteArray := prog_9_method_13_code
def yX7_numberToken : MethodName := ⟨RX7, "numberToken", "([BII)I"⟩
abbrev cX7_wordToken : ByteArray := prog_9_method_14_code
def yX7_wordToken : MethodName := ⟨RX7, "wordToken", "([BII)I"⟩
abbrev cX7_nameToken : ByteArray := prog_9_method_15_code
def yX7_nameToken : MethodName := ⟨RX7, "nameToken", "([BII)I"⟩
abbrev cX7_spells : ByteArray := prog_9_method_16_code
def yX7_spells : MethodName := ⟨RX7, "spells", "([BIILjava/lang/String;)Z"⟩
def RX8 : String := "ArmsBook$Tape"
def TX8 : u_T := fun k => match k with
  | 0 => ("ArmsBook$Tape", "bytes", "[B", true)
  | _ => ("ArmsBook$Tape", "length", "I", false)
def tyX8 : Nat → FieldType := fun k => match k with
  | 0 => .array .byte
  | _ => .int
abbrev wsX80 : List Cond := u_ws RX8 TX8 2
theorem nmX8 : ∀ a, a < 2 → ∀ b, b < 2 → a ≠ b → (TX8 a).2.1 ≠ (TX8 b).2.1 := by decide +kernel
theorem tyX8_ok : ∀ k, k < 2 → parseFieldDescriptor (TX8 k).2.2.1 = some (tyX8 k) := by decide +kernel
abbrev cX8_init : ByteArray := prog_10_method_1_code
def yX8_init : MethodName := ⟨RX8, "<init>", "()V"⟩
abbrev cX8_hasRoom : ByteArray := prog_10_method_2_code
def yX8_hasRoom : MethodName := ⟨RX8, "hasRoom", "()Z"⟩
abbrev cX8_put : ByteArray := prog_10_method_3_code
def yX8_put : MethodName := ⟨RX8, "put", "(I)V"⟩
def RX9 : String := "ArmsBook$Text"
def TX9 : u_T := fun k => match k with
  | 0 => ("ArmsBook$Text", "code", "[I", true)
  | _ => ("ArmsBook$Text", "from", "I", true)
def tyX9 : Nat → FieldType := fun k => match k with
  | 0 => .array .int
  | _ => .int
abbrev wsX90 : List Cond := u_ws RX9 TX9 2
theorem nmX9 : ∀ a, a < 2 → ∀ b, b < 2 → a ≠ b → (TX9 a).2.1 ≠ (TX9 b).2.1 := by decide +kernel
theorem tyX9_ok : ∀ k, k < 2 → parseFieldDescriptor (TX9 k).2.2.1 = some (tyX9 k) := by decide +kernel
abbrev cX9_init : ByteArray := prog_11_method_1_code
def yX9_init : MethodName := ⟨RX9, "<init>", "([II)V"⟩
def RX10 : String := "ArmsBook"
def TX10 : u_T := fun k => match k with
  | 0 => ("ArmsBook", "people", "LArmsBook$People;", true)
  | 1 => ("ArmsBook", "grants", "LArmsBook$Grants;", true)
  | 2 => ("ArmsBook", "proof", "LArmsBook$Proof;", true)
  | 3 => ("ArmsBook", "quarters", "LArmsBook$Quarters;", true)
  | 4 => ("ArmsBook", "tape", "LArmsBook$Tape;", true)
  | 5 => ("ArmsBook", "parser", "LArmsBook$Parser;", true)
  | 6 => ("ArmsBook", "office", "LArmsBook$Office;", true)
  | 7 => ("ArmsBook", "copies", "LArmsBook$Copies;", true)
  | _ => ("ArmsBook", "faultPlace", "I", false)
def tyX10 : Nat → FieldType := fun k => match k with
  | 0 => .object "ArmsBook$People"
  | 1 => .object "ArmsBook$Grants"
  | 2 => .object "ArmsBook$Proof"
  | 3 => .object "ArmsBook$Quarters"
  | 4 => .object "ArmsBook$Tape"
  | 5 => .object "ArmsBook$Parser"
  | 6 => .object "ArmsBook$Office"
  | 7 => .object "ArmsBook$Copies"
  | _ => .int
abbrev wsX100 : List Cond := u_ws RX10 TX10 9
theorem nmX10 : ∀ a, a < 9 → ∀ b, b < 9 → a ≠ b → (TX10 a).2.1 ≠ (TX10 b).2.1 := by decide +kernel
theorem tyX10_ok : ∀ k, k < 9 → parseFieldDescriptor (TX10 k).2.2.1 = some (tyX10 k) := by decide +kernel
abbrev cX10_init : ByteArray := prog_1_method_1_code
def yX10_init : MethodName := ⟨RX10, "<init>", "()V"⟩
abbrev cX10_person : ByteArray := prog_1_method_2_code
def yX10_person : MethodName := ⟨RX10, "person", "(ZII)I"⟩
abbrev cX10_parent : ByteArray := prog_1_method_3_code
def yX10_parent : MethodName := ⟨RX10, "parent", "(IIII)Z"⟩
abbrev cX10_grant : ByteArray := prog_1_method_4_code
def yX10_grant : MethodName := ⟨RX10, "grant", "(III)I"⟩
abbrev cX10_feed : ByteArray := prog_1_method_5_code
def yX10_feed : MethodName := ⟨RX10, "feed", "(IIIII)I"⟩
abbrev cX10_text : ByteArray := prog_1_method_6_code
def yX10_text : MethodName := ⟨RX10, "text", "(II)I"⟩
abbrev cX10_fault : ByteArray := prog_1_method_7_code
def yX10_fault : MethodName := ⟨RX10, "fault", "()I"⟩
abbrev cX10_about : ByteArray := prog_1_method_8_code
def yX10_about : MethodName := ⟨RX10, "about", "(II)I"⟩
abbrev cX10_bears : ByteArray := prog_1_method_9_code
def yX10_bears : MethodName := ⟨RX10, "bears", "(III)I"⟩
abbrev cX10_mark : ByteArray := prog_1_method_10_code
def yX10_mark : MethodName := ⟨RX10, "mark", "(III)I"⟩
abbrev cX10_head : ByteArray := prog_1_method_11_code
def yX10_head : MethodName := ⟨RX10, "head", "(II)I"⟩
abbrev cX10_quarter : ByteArray := prog_1_method_12_code
def yX10_quarter : MethodName := ⟨RX10, "quarter", "(III)I"⟩
abbrev cX10_claim : ByteArray := prog_1_method_13_code
def yX10_claim : MethodName := ⟨RX10, "claim", "(III)I"⟩
abbrev cX10_fee : ByteArray := prog_1_method_14_code
def yX10_fee : MethodName := ⟨RX10, "fee", "(II)I"⟩
abbrev cX10_rivals : ByteArray := prog_1_method_15_code
def yX10_rivals : MethodName := ⟨RX10, "rivals", "(II)I"⟩
abbrev cX10_common : ByteArray := prog_1_method_16_code
def yX10_common : MethodName := ⟨RX10, "common", "(II)I"⟩
abbrev cX10_copy : ByteArray := prog_1_method_17_code
def yX10_copy : MethodName := ⟨RX10, "copy", "(II)I"⟩
abbrev cX10_of : ByteArray := prog_1_method_18_code
def yX10_of : MethodName := ⟨RX10, "of", "(II)I"⟩
abbrev cX10_count : ByteArray := prog_1_method_19_code
def yX10_count : MethodName := ⟨RX10, "count", "(I)I"⟩
abbrev cX10_requirePerson : ByteArray := prog_1_method_20_code
def yX10_requirePerson : MethodName := ⟨RX10, "requirePerson", "(I)V"⟩
abbrev cX10_judge : ByteArray := prog_1_method_21_code
def yX10_judge : MethodName := ⟨RX10, "judge", "(II)V"⟩
abbrev cX10_countRivals : ByteArray := prog_1_method_22_code
def yX10_countRivals : MethodName := ⟨RX10, "countRivals", "(I)I"⟩
abbrev cX10_isYear : ByteArray := prog_1_method_23_code
def yX10_isYear : MethodName := ⟨RX10, "isYear", "(I)Z"⟩
abbrev cX10_asInt : ByteArray := prog_1_method_24_code
def yX10_asInt : MethodName := ⟨RX10, "asInt", "(Z)I"⟩
def RX11 : String := "ArmsBookModel"
def TX11 : u_T := fun k => match k with
  | 0 => ("ArmsBookModel", "names", "[Ljava/lang/String;", true)
  | 1 => ("ArmsBookModel", "code", "I", false)
  | 2 => ("ArmsBookModel", "people", "I", false)
  | 3 => ("ArmsBookModel", "grants", "I", false)
  | 4 => ("ArmsBookModel", "texts", "I", false)
  | 5 => ("ArmsBookModel", "copies", "I", false)
  | 6 => ("ArmsBookModel", "taped", "I", false)
  | 7 => ("ArmsBookModel", "faultPlace", "I", false)
  | 8 => ("ArmsBookModel", "isFemale", "[Z", true)
  | 9 => ("ArmsBookModel", "born", "[I", true)
  | 10 => ("ArmsBookModel", "died", "[I", true)
  | 11 => ("ArmsBookModel", "father", "[I", true)
  | 12 => ("ArmsBookModel", "mother", "[I", true)
  | 13 => ("ArmsBookModel", "fatherGrade", "[I", true)
  | 14 => ("ArmsBookModel", "motherGrade", "[I", true)
  | 15 => ("ArmsBookModel", "grantTo", "[I", true)
  | 16 => ("ArmsBookModel", "grantArms", "[I", true)
  | 17 => ("ArmsBookModel", "grantYear", "[I", true)
  | 18 => ("ArmsBookModel", "copyYear", "[I", true)
  | 19 => ("ArmsBookModel", "copyRow", "[I", true)
  | 20 => ("ArmsBookModel", "tape", "[I", true)
  | 21 => ("ArmsBookModel", "textYear", "[I", true)
  | 22 => ("ArmsBookModel", "ruleMany", "[I", true)
  | 23 => ("ArmsBookModel", "ruleFrom", "[I", true)
  | 24 => ("ArmsBookModel", "codeRow", "[I", true)
  | 25 => ("ArmsBookModel", "stack", "[I", true)
  | 26 => ("ArmsBookModel", "ruleKind", "[I", true)
  | 27 => ("ArmsBookModel", "codes", "I", false)
  | 28 => ("ArmsBookModel", "at", "I", false)
  | 29 => ("ArmsBookModel", "read", "I", false)
  | 30 => ("ArmsBookModel", "token", "I", false)
  | 31 => ("ArmsBookModel", "sign", "I", false)
  | 32 => ("ArmsBookModel", "begins", "I", false)
  | 33 => ("ArmsBookModel", "ends", "I", false)
  | 34 => ("ArmsBookModel", "bad", "I", false)
  | 35 => ("ArmsBookModel", "badPlace", "I", false)
  | 36 => ("ArmsBookModel", "top", "I", false)
  | 37 => ("ArmsBookModel", "lineLives", "[Z", true)
  | 38 => ("ArmsBookModel", "markRow", "[I", true)
  | 39 => ("ArmsBookModel", "quarterMany", "[I", true)
  | 40 => ("ArmsBookModel", "quarters", "[I", true)
  | 41 => ("ArmsBookModel", "isUp", "[Z", true)
  | _ => ("ArmsBookModel", "wasUp", "[Z", true)
def tyX11 : Nat → FieldType := fun k => match k with
  | 0 => .array (.object "java/lang/String")
  | 1 => .int
  | 2 => .int
  | 3 => .int
  | 4 => .int
  | 5 => .int
  | 6 => .int
  | 7 => .int
  | 8 => .array .boolean
  | 9 => .array .int
  | 10 => .array .int
  | 11 => .array .int
  | 12 => .array .int
  | 13 => .array .int
  | 14 => .array .int
  | 15 => .array .int
  | 16 => .array .int
  | 17 => .array .int
  | 18 => .array .int
  | 19 => .array .int
  | 20 => .array .int
  | 21 => .array .int
  | 22 => .array .int
  | 23 => .array .int
  | 24 => .array .int
  | 25 => .array .int
  | 26 => .array .int
  | 27 => .int
  | 28 => .int
  | 29 => .int
  | 30 => .int
  | 31 => .int
  | 32 => .int
  | 33 => .int
  | 34 => .int
  | 35 => .int
  | 36 => .int
  | 37 => .array .boolean
  | 38 => .array .int
  | 39 => .array .int
  | 40 => .array .int
  | 41 => .array .boolean
  | _ => .array .boolean
abbrev wsX110 : List Cond := u_ws RX11 TX11 43
theorem nmX11 : ∀ a, a < 43 → ∀ b, b < 43 → a ≠ b → (TX11 a).2.1 ≠ (TX11 b).2.1 := by decide +kernel
theorem tyX11_ok : ∀ k, k < 43 → parseFieldDescriptor (TX11 k).2.2.1 = some (tyX11 k) := by decide +kernel
abbrev cX11_init : ByteArray := prog_13_method_1_code
def yX11_init : MethodName := ⟨RX11, "<init>", "()V"⟩
abbrev cX11_thrown : ByteArray := prog_13_method_2_code
def yX11_thrown : MethodName := ⟨RX11, "thrown", "()I"⟩
abbrev cX11_fail : ByteArray := prog_13_method_3_code
def yX11_fail : MethodName := ⟨RX11, "fail", "()I"⟩
abbrev cX11_is : ByteArray := prog_13_method_4_code
def yX11_is : MethodName := ⟨RX11, "is", "(I)Z"⟩
abbrev cX11_isYear : ByteArray := prog_13_method_5_code
def yX11_isYear : MethodName := ⟨RX11, "isYear", "(I)Z"⟩
abbrev cX11_person : ByteArray := prog_13_method_6_code
def yX11_person : MethodName := ⟨RX11, "person", "(ZII)I"⟩
abbrev cX11_end : ByteArray := prog_13_method_7_code
def yX11_end : MethodName := ⟨RX11, "end", "(I)I"⟩
abbrev cX11_lives : ByteArray := prog_13_method_8_code
def yX11_lives : MethodName := ⟨RX11, "lives", "(II)Z"⟩
abbrev cX11_parent : ByteArray := prog_13_method_9_code
def yX11_parent : MethodName := ⟨RX11, "parent", "(IIII)Z"⟩
abbrev cX11_grant : ByteArray := prog_13_method_10_code
def yX11_grant : MethodName := ⟨RX11, "grant", "(III)I"⟩
abbrev cX11_about : ByteArray := prog_13_method_11_code
def yX11_about : MethodName := ⟨RX11, "about", "(II)I"⟩
abbrev cX11_isChild : ByteArray := prog_13_method_12_code
def yX11_isChild : MethodName := ⟨RX11, "isChild", "(II)Z"⟩
abbrev cX11_own : ByteArray := prog_13_method_13_code
def yX11_own : MethodName := ⟨RX11, "own", "(II)I"⟩
abbrev cX11_rootOf : ByteArray := prog_13_method_14_code
def yX11_rootOf : MethodName := ⟨RX11, "rootOf", "(II)I"⟩
abbrev cX11_armsOf : ByteArray := prog_13_method_15_code
def yX11_armsOf : MethodName := ⟨RX11, "armsOf", "(II)I"⟩
abbrev cX11_stepsOf : ByteArray := prog_13_method_16_code
def yX11_stepsOf : MethodName := ⟨RX11, "stepsOf", "(II)I"⟩
abbrev cX11_gradeOf : ByteArray := prog_13_method_17_code
def yX11_gradeOf : MethodName := ⟨RX11, "gradeOf", "(II)I"⟩
abbrev cX11_lines : ByteArray := prog_13_method_18_code
def yX11_lines : MethodName := ⟨RX11, "lines", "(I)V"⟩
abbrev cX11_isAhead : ByteArray := prog_13_method_19_code
def yX11_isAhead : MethodName := ⟨RX11, "isAhead", "(II)Z"⟩
abbrev cX11_placeOf : ByteArray := prog_13_method_20_code
def yX11_placeOf : MethodName := ⟨RX11, "placeOf", "(II)I"⟩
abbrev cX11_marksOf : ByteArray := prog_13_method_21_code
def yX11_marksOf : MethodName := ⟨RX11, "marksOf", "(II)I"⟩
abbrev cX11_marksAbove : ByteArray := prog_13_method_22_code
def yX11_marksAbove : MethodName := ⟨RX11, "marksAbove", "(II)I"⟩
abbrev cX11_isHeiress : ByteArray := prog_13_method_23_code
def yX11_isHeiress : MethodName := ⟨RX11, "isHeiress", "(II)Z"⟩
abbrev cX11_bears : ByteArray := prog_13_method_24_code
def yX11_bears : MethodName := ⟨RX11, "bears", "(III)I"⟩
abbrev cX11_mark : ByteArray := prog_13_method_25_code
def yX11_mark : MethodName := ⟨RX11, "mark", "(III)I"⟩
abbrev cX11_head : ByteArray := prog_13_method_26_code
def yX11_head : MethodName := ⟨RX11, "head", "(II)I"⟩
abbrev cX11_put : ByteArray := prog_13_method_27_code
def yX11_put : MethodName := ⟨RX11, "put", "(II)V"⟩
abbrev cX11_brings : ByteArray := prog_13_method_28_code
def yX11_brings : MethodName := ⟨RX11, "brings", "(II)Z"⟩
abbrev cX11_quartersOf : ByteArray := prog_13_method_29_code
def yX11_quartersOf : MethodName := ⟨RX11, "quartersOf", "(II)I"⟩
abbrev cX11_quarter : ByteArray := prog_13_method_30_code
def yX11_quarter : MethodName := ⟨RX11, "quarter", "(III)I"⟩
abbrev cX11_rivalsOf : ByteArray := prog_13_method_31_code
def yX11_rivalsOf : MethodName := ⟨RX11, "rivalsOf", "(II)I"⟩
abbrev cX11_rivals : ByteArray := prog_13_method_32_code
def yX11_rivals : MethodName := ⟨RX11, "rivals", "(II)I"⟩
abbrev cX11_up : ByteArray := prog_13_method_33_code
def yX11_up : MethodName := ⟨RX11, "up", "(I)V"⟩
abbrev cX11_common : ByteArray := prog_13_method_34_code
def yX11_common : MethodName := ⟨RX11, "common", "(II)I"⟩
abbrev cX11_feed : ByteArray := prog_13_method_35_code
def yX11_feed : MethodName := ⟨RX11, "feed", "(IIIII)I"⟩
abbrev cX11_byteAt : ByteArray := prog_13_method_36_code
def yX11_byteAt : MethodName := ⟨RX11, "byteAt", "(I)I"⟩
abbrev cX11_isLetter : ByteArray := prog_13_method_37_code
def yX11_isLetter : MethodName := ⟨RX11, "isLetter", "(I)Z"⟩
abbrev cX11_isDigit : ByteArray := prog_13_method_38_code
def yX11_isDigit : MethodName := ⟨RX11, "isDigit", "(I)Z"⟩
abbrev cX11_step : ByteArray := prog_13_method_39_code
def yX11_step : MethodName := ⟨RX11, "step", "()V"⟩
abbrev cX11_isWord : ByteArray := prog_13_method_40_code
def yX11_isWord : MethodName := ⟨RX11, "isWord", "(Ljava/lang/String;)Z"⟩
abbrev cX11_isSign : ByteArray := prog_13_method_41_code
def yX11_isSign : MethodName := ⟨RX11, "isSign", "(I)Z"⟩
abbrev cX11_wrong : ByteArray := prog_13_method_42_code
def yX11_wrong : MethodName := ⟨RX11, "wrong", "(I)V"⟩
abbrev cX11_emit : ByteArray := prog_13_method_43_code
def yX11_emit : MethodName := ⟨RX11, "emit", "(I)V"⟩
abbrev cX11_readText : ByteArray := prog_13_method_44_code
def yX11_readText : MethodName := ⟨RX11, "readText", "()V"⟩
abbrev cX11_readExpression : ByteArray := prog_13_method_45_code
def yX11_readExpression : MethodName := ⟨RX11, "readExpression", "(I)V"⟩
abbrev cX11_readTest : ByteArray := prog_13_method_46_code
def yX11_readTest : MethodName := ⟨RX11, "readTest", "(I)V"⟩
abbrev cX11_readSum : ByteArray := prog_13_method_47_code
def yX11_readSum : MethodName := ⟨RX11, "readSum", "(I)V"⟩
abbrev cX11_readPart : ByteArray := prog_13_method_48_code
def yX11_readPart : MethodName := ⟨RX11, "readPart", "(I)V"⟩
abbrev cX11_text : ByteArray := prog_13_method_49_code
def yX11_text : MethodName := ⟨RX11, "text", "(II)I"⟩
abbrev cX11_fault : ByteArray := prog_13_method_50_code
def yX11_fault : MethodName := ⟨RX11, "fault", "()I"⟩
abbrev cX11_value : ByteArray := prog_13_method_51_code
def yX11_value : MethodName := ⟨RX11, "value", "(III)I"⟩
abbrev cX11_two : ByteArray := prog_13_method_52_code
def yX11_two : MethodName := ⟨RX11, "two", "(III)I"⟩
abbrev cX11_told : ByteArray := prog_13_method_53_code
def yX11_told : MethodName := ⟨RX11, "told", "(IIII)I"⟩
abbrev cX11_ruled : ByteArray := prog_13_method_54_code
def yX11_ruled : MethodName := ⟨RX11, "ruled", "(III)I"⟩
abbrev cX11_claim : ByteArray := prog_13_method_55_code
def yX11_claim : MethodName := ⟨RX11, "claim", "(III)I"⟩
abbrev cX11_fee : ByteArray := prog_13_method_56_code
def yX11_fee : MethodName := ⟨RX11, "fee", "(II)I"⟩
abbrev cX11_copy : ByteArray := prog_13_method_57_code
def yX11_copy : MethodName := ⟨RX11, "copy", "(II)I"⟩
abbrev cX11_unlike : ByteArray := prog_13_method_58_code
def yX11_unlike : MethodName := ⟨RX11, "unlike", "(II)I"⟩
abbrev cX11_takenFrom : ByteArray := prog_13_method_59_code
def yX11_takenFrom : MethodName := ⟨RX11, "takenFrom", "(I)I"⟩
abbrev cX11_of : ByteArray := prog_13_method_60_code
def yX11_of : MethodName := ⟨RX11, "of", "(II)I"⟩
abbrev cX11_count : ByteArray := prog_13_method_61_code
def yX11_count : MethodName := ⟨RX11, "count", "(I)I"⟩
def RJx8e188 : String := "java/lang/Cloneable"
def TJx8e188 : u_T := fun k => match k with
  | _ => ("", "", "", false)
def tyJx8e188 : Nat → FieldType := fun k => match k with
  | _ => .int
abbrev wsJx8e1880 : List Cond := u_ws RJx8e188 TJx8e188 0
theorem nmJx8e188 : ∀ a, a < 0 → ∀ b, b < 0 → a ≠ b → (TJx8e188 a).2.1 ≠ (TJx8e188 b).2.1 := by decide +kernel
theorem tyJx8e188_ok : ∀ k, k < 0 → parseFieldDescriptor (TJx8e188 k).2.2.1 = some (tyJx8e188 k) := by decide +kernel
def RJ9 : String := "java/lang/Math"
def TJ9 : u_T := fun k => match k with
  | _ => ("", "", "", false)
def tyJ9 : Nat → FieldType := fun k => match k with
  | _ => .int
abbrev wsJ90 : List Cond := u_ws RJ9 TJ9 0
theorem nmJ9 : ∀ a, a < 0 → ∀ b, b < 0 → a ≠ b → (TJ9 a).2.1 ≠ (TJ9 b).2.1 := by decide +kernel
theorem tyJ9_ok : ∀ k, k < 0 → parseFieldDescriptor (TJ9 k).2.2.1 = some (tyJ9 k) := by decide +kernel
abbrev cJ9_min_7cf53 : ByteArray := prog_17_method_69_code
def yJ9_min_7cf53 : MethodName := ⟨RJ9, "min", "(II)I"⟩
def RJ0 : String := "java/lang/String"
def TJ0 : u_T := fun k => match k with
  | _ => ("", "", "", false)
def tyJ0 : Nat → FieldType := fun k => match k with
  | _ => .int
abbrev wsJ00 : List Cond := u_ws RJ0 TJ0 0
theorem nmJ0 : ∀ a, a < 0 → ∀ b, b < 0 → a ≠ b → (TJ0 a).2.1 ≠ (TJ0 b).2.1 := by decide +kernel
theorem tyJ0_ok : ∀ k, k < 0 → parseFieldDescriptor (TJ0 k).2.2.1 = some (tyJ0 k) := by decide +kernel
abbrev cJ0_length_8abf5 : ByteArray := prog_19_method_54_code
def yJ0_length_8abf5 : MethodName := ⟨RJ0, "length", "()I"⟩
abbrev cJ0_charAt_5068e : ByteArray := prog_19_method_56_code
def yJ0_charAt_5068e : MethodName := ⟨RJ0, "charAt", "(I)C"⟩
abbrev cJ0_coder_7d493 : ByteArray := prog_19_method_152_code
def yJ0_coder_7d493 : MethodName := ⟨RJ0, "coder", "()B"⟩
abbrev cJ0_isLatin1_aae02 : ByteArray := prog_19_method_154_code
def yJ0_isLatin1_aae02 : MethodName := ⟨RJ0, "isLatin1", "()Z"⟩
abbrev cJ0_checkIndex_df160 : ByteArray := prog_19_method_155_code
def yJ0_checkIndex_df160 : MethodName := ⟨RJ0, "checkIndex", "(II)V"⟩
def RJ1 : String := "java/lang/StringLatin1"
def TJ1 : u_T := fun k => match k with
  | _ => ("", "", "", false)
def tyJ1 : Nat → FieldType := fun k => match k with
  | _ => .int
abbrev wsJ10 : List Cond := u_ws RJ1 TJ1 0
theorem nmJ1 : ∀ a, a < 0 → ∀ b, b < 0 → a ≠ b → (TJ1 a).2.1 ≠ (TJ1 b).2.1 := by decide +kernel
theorem tyJ1_ok : ∀ k, k < 0 → parseFieldDescriptor (TJ1 k).2.2.1 = some (tyJ1 k) := by decide +kernel
abbrev cJ1_charAt_3b067 : ByteArray := prog_20_method_2_code
def yJ1_charAt_3b067 : MethodName := ⟨RJ1, "charAt", "([BI)C"⟩
def RJ2 : String := "java/lang/StringUTF16"
def TJ2 : u_T := fun k => match k with
  | _ => ("", "", "", false)
def tyJ2 : Nat → FieldType := fun k => match k with
  | _ => .int
abbrev wsJ20 : List Cond := u_ws RJ2 TJ2 0
theorem nmJ2 : ∀ a, a < 0 → ∀ b, b < 0 → a ≠ b → (TJ2 a).2.1 ≠ (TJ2 b).2.1 := by decide +kernel
theorem tyJ2_ok : ∀ k, k < 0 → parseFieldDescriptor (TJ2 k).2.2.1 = some (tyJ2 k) := by decide +kernel
abbrev cJ2_getChar_3b067 : ByteArray := prog_21_method_5_code
def yJ2_getChar_3b067 : MethodName := ⟨RJ2, "getChar", "([BI)C"⟩
abbrev cJ2_length_9d52b : ByteArray := prog_21_method_6_code
def yJ2_length_9d52b : MethodName := ⟨RJ2, "length", "([B)I"⟩
abbrev cJ2_charAt_3b067 : ByteArray := prog_21_method_83_code
def yJ2_charAt_3b067 : MethodName := ⟨RJ2, "charAt", "([BI)C"⟩
abbrev cJ2_checkIndex_2214a : ByteArray := prog_21_method_91_code
def yJ2_checkIndex_2214a : MethodName := ⟨RJ2, "checkIndex", "(I[B)V"⟩
def RJ10 : String := "java/lang/System"
def TJ10 : u_T := fun k => match k with
  | _ => ("", "", "", false)
def tyJ10 : Nat → FieldType := fun k => match k with
  | _ => .int
abbrev wsJ100 : List Cond := u_ws RJ10 TJ10 0
theorem nmJ10 : ∀ a, a < 0 → ∀ b, b < 0 → a ≠ b → (TJ10 a).2.1 ≠ (TJ10 b).2.1 := by decide +kernel
theorem tyJ10_ok : ∀ k, k < 0 → parseFieldDescriptor (TJ10 k).2.2.1 = some (tyJ10 k) := by decide +kernel
def RJ7 : String := "java/util/Arrays"
def TJ7 : u_T := fun k => match k with
  | _ => ("", "", "", false)
def tyJ7 : Nat → FieldType := fun k => match k with
  | _ => .int
abbrev wsJ70 : List Cond := u_ws RJ7 TJ7 0
theorem nmJ7 : ∀ a, a < 0 → ∀ b, b < 0 → a ≠ b → (TJ7 a).2.1 ≠ (TJ7 b).2.1 := by decide +kernel
theorem tyJ7_ok : ∀ k, k < 0 → parseFieldDescriptor (TJ7 k).2.2.1 = some (tyJ7 k) := by decide +kernel
abbrev cJ7_copyOf_59c91 : ByteArray := prog_24_method_123_code
def yJ7_copyOf_59c91 : MethodName := ⟨RJ7, "copyOf", "([II)[I"⟩
def RJ3 : String := "jdk/internal/util/Preconditions"
def TJ3 : u_T := fun k => match k with
  | _ => ("", "", "", false)
def tyJ3 : Nat → FieldType := fun k => match k with
  | _ => .int
abbrev wsJ30 : List Cond := u_ws RJ3 TJ3 0
theorem nmJ3 : ∀ a, a < 0 → ∀ b, b < 0 → a ≠ b → (TJ3 a).2.1 ≠ (TJ3 b).2.1 := by decide +kernel
theorem tyJ3_ok : ∀ k, k < 0 → parseFieldDescriptor (TJ3 k).2.2.1 = some (tyJ3 k) := by decide +kernel
abbrev cJ3_checkIndex_8e157 : ByteArray := prog_26_method_11_code
def yJ3_checkIndex_8e157 : MethodName := ⟨RJ3, "checkIndex", "(IILjava/util/function/BiFunction;)I"⟩
def RL : String := "ArmsBookLaw"
abbrev cL_parent : ByteArray := method_3_code
def yL_parent : MethodName := ⟨RL, "parent", "(LArmsBook;IIII[J)I"⟩
abbrev cL_grant : ByteArray := method_4_code
def yL_grant : MethodName := ⟨RL, "grant", "(LArmsBook;III[J)I"⟩
abbrev cL_text : ByteArray := method_5_code
def yL_text : MethodName := ⟨RL, "text", "(LArmsBook;II[J)I"⟩
abbrev cL_about : ByteArray := method_6_code
def yL_about : MethodName := ⟨RL, "about", "(LArmsBook;II[J)I"⟩
abbrev cL_bears : ByteArray := method_7_code
def yL_bears : MethodName := ⟨RL, "bears", "(LArmsBook;III[J)I"⟩
abbrev cL_mark : ByteArray := method_8_code
def yL_mark : MethodName := ⟨RL, "mark", "(LArmsBook;III[J)I"⟩
abbrev cL_head : ByteArray := method_9_code
def yL_head : MethodName := ⟨RL, "head", "(LArmsBook;II[J)I"⟩
abbrev cL_quarter : ByteArray := method_10_code
def yL_quarter : MethodName := ⟨RL, "quarter", "(LArmsBook;III[J)I"⟩
abbrev cL_claim : ByteArray := method_11_code
def yL_claim : MethodName := ⟨RL, "claim", "(LArmsBook;III[J)I"⟩
abbrev cL_fee : ByteArray := method_12_code
def yL_fee : MethodName := ⟨RL, "fee", "(LArmsBook;II[J)I"⟩
abbrev cL_rivals : ByteArray := method_13_code
def yL_rivals : MethodName := ⟨RL, "rivals", "(LArmsBook;II[J)I"⟩
abbrev cL_common : ByteArray := method_14_code
def yL_common : MethodName := ⟨RL, "common", "(LArmsBook;II[J)I"⟩
abbrev cL_of : ByteArray := method_15_code
def yL_of : MethodName := ⟨RL, "of", "(LArmsBook;II[J)I"⟩
abbrev cL_count : ByteArray := method_16_code
def yL_count : MethodName := ⟨RL, "count", "(LArmsBook;I[J)I"⟩
abbrev cL_law : ByteArray := code
def yL_law : MethodName := ⟨RL, "law", "([I)Z"⟩
theorem inJx8e188 : ∀ w ∈ wsJx8e1880, w ∈ lw_tbl := by decide +kernel
theorem inJ9 : ∀ w ∈ wsJ90, w ∈ lw_tbl := by decide +kernel
theorem inJ0 : ∀ w ∈ wsJ00, w ∈ lw_tbl := by decide +kernel
theorem inJ1 : ∀ w ∈ wsJ10, w ∈ lw_tbl := by decide +kernel
theorem inJ2 : ∀ w ∈ wsJ20, w ∈ lw_tbl := by decide +kernel
theorem inJ10 : ∀ w ∈ wsJ100, w ∈ lw_tbl := by decide +kernel
theorem inJ7 : ∀ w ∈ wsJ70, w ∈ lw_tbl := by decide +kernel
theorem inJ3 : ∀ w ∈ wsJ30, w ∈ lw_tbl := by decide +kernel
abbrev vwCl : List vw_C := [(RX0, TX0, 3), (RX1, TX1, 4), (RX2, TX2, 8), (RX3, TX3, 7), (RX4, TX4, 9), (RX5, TX5, 6), (RX6, TX6, 2), (RX7, TX7, 3), (RX8, TX8, 2), (RX9, TX9, 2), (RX10, TX10, 9), (RX11, TX11, 43)]
end
section
theorem dJ0_length_8abf5_0 : decode cJ0_length_8abf5 0 = .ok (.aload_n 0, 1) := by decide +kernel
theorem dJ0_length_8abf5_1 : decode cJ0_length_8abf5 1 = .ok (.getfield 9, 3) := by decide +kernel
theorem dJ0_length_8abf5_4 : decode cJ0_length_8abf5 4 = .ok (.arraylength, 1) := by decide +kernel
theorem dJ0_length_8abf5_5 : decode cJ0_length_8abf5 5 = .ok (.aload_n 0, 1) := by decide +kernel
theorem dJ0_length_8abf5_6 : decode cJ0_length_8abf5 6 = .ok (.invokevirtual 335, 3) := by decide +kernel
theorem dJ0_length_8abf5_9 : decode cJ0_length_8abf5 9 = .ok (.ishr, 1) := by decide +kernel
theorem dJ0_length_8abf5_10 : decode cJ0_length_8abf5 10 = .ok (.ireturn, 1) := by decide +kernel
theorem dJ0_charAt_5068e_0 : decode cJ0_charAt_5068e 0 = .ok (.aload_n 0, 1) := by decide +kernel
theorem dJ0_charAt_5068e_1 : decode cJ0_charAt_5068e 1 = .ok (.invokevirtual 492, 3) := by decide +kernel
theorem dJ0_charAt_5068e_4 : decode cJ0_charAt_5068e 4 = .ok (.ifCond .eq 12, 3) := by decide +kernel
theorem dJ0_charAt_5068e_7 : decode cJ0_charAt_5068e 7 = .ok (.aload_n 0, 1) := by decide +kernel
theorem dJ0_charAt_5068e_8 : decode cJ0_charAt_5068e 8 = .ok (.getfield 9, 3) := by decide +kernel
theorem dJ0_charAt_5068e_11 : decode cJ0_charAt_5068e 11 = .ok (.iload_n 1, 1) := by decide +kernel
theorem dJ0_charAt_5068e_12 : decode cJ0_charAt_5068e 12 = .ok (.invokestatic 495, 3) := by decide +kernel
theorem dJ0_charAt_5068e_15 : decode cJ0_charAt_5068e 15 = .ok (.ireturn, 1) := by decide +kernel
theorem dJ0_charAt_5068e_16 : decode cJ0_charAt_5068e 16 = .ok (.aload_n 0, 1) := by decide +kernel
theorem dJ0_charAt_5068e_17 : decode cJ0_charAt_5068e 17 = .ok (.getfield 9, 3) := by decide +kernel
theorem dJ0_charAt_5068e_20 : decode cJ0_charAt_5068e 20 = .ok (.iload_n 1, 1) := by decide +kernel
theorem dJ0_charAt_5068e_21 : decode cJ0_charAt_5068e 21 = .ok (.invokestatic 498, 3) := by decide +kernel
theorem dJ0_charAt_5068e_24 : decode cJ0_charAt_5068e 24 = .ok (.ireturn, 1) := by decide +kernel
theorem dJ0_coder_7d493_0 : decode cJ0_coder_7d493 0 = .ok (.getstatic 38, 3) := by decide +kernel
theorem dJ0_coder_7d493_3 : decode cJ0_coder_7d493 3 = .ok (.ifCond .eq 10, 3) := by decide +kernel
theorem dJ0_coder_7d493_6 : decode cJ0_coder_7d493 6 = .ok (.aload_n 0, 1) := by decide +kernel
theorem dJ0_coder_7d493_7 : decode cJ0_coder_7d493 7 = .ok (.getfield 15, 3) := by decide +kernel
theorem dJ0_coder_7d493_10 : decode cJ0_coder_7d493 10 = .ok (.goto 4, 3) := by decide +kernel
theorem dJ0_coder_7d493_13 : decode cJ0_coder_7d493 13 = .ok (.iconst 1, 1) := by decide +kernel
theorem dJ0_coder_7d493_14 : decode cJ0_coder_7d493 14 = .ok (.ireturn, 1) := by decide +kernel
theorem dJ0_isLatin1_aae02_0 : decode cJ0_isLatin1_aae02 0 = .ok (.getstatic 38, 3) := by decide +kernel
theorem dJ0_isLatin1_aae02_3 : decode cJ0_isLatin1_aae02 3 = .ok (.ifCond .eq 14, 3) := by decide +kernel
theorem dJ0_isLatin1_aae02_6 : decode cJ0_isLatin1_aae02 6 = .ok (.aload_n 0, 1) := by decide +kernel
theorem dJ0_isLatin1_aae02_7 : decode cJ0_isLatin1_aae02 7 = .ok (.getfield 15, 3) := by decide +kernel
theorem dJ0_isLatin1_aae02_10 : decode cJ0_isLatin1_aae02 10 = .ok (.ifCond .ne 7, 3) := by decide +kernel
theorem dJ0_isLatin1_aae02_13 : decode cJ0_isLatin1_aae02 13 = .ok (.iconst 1, 1) := by decide +kernel
theorem dJ0_isLatin1_aae02_14 : decode cJ0_isLatin1_aae02 14 = .ok (.goto 4, 3) := by decide +kernel
theorem dJ0_isLatin1_aae02_17 : decode cJ0_isLatin1_aae02 17 = .ok (.iconst 0, 1) := by decide +kernel
theorem dJ0_isLatin1_aae02_18 : decode cJ0_isLatin1_aae02 18 = .ok (.ireturn, 1) := by decide +kernel
theorem dJ0_checkIndex_df160_0 : decode cJ0_checkIndex_df160 0 = .ok (.iload_n 0, 1) := by decide +kernel
theorem dJ0_checkIndex_df160_1 : decode cJ0_checkIndex_df160 1 = .ok (.iload_n 1, 1) := by decide +kernel
theorem dJ0_checkIndex_df160_2 : decode cJ0_checkIndex_df160 2 = .ok (.getstatic 1053, 3) := by decide +kernel
theorem dJ0_checkIndex_df160_5 : decode cJ0_checkIndex_df160 5 = .ok (.invokestatic 1059, 3) := by decide +kernel
theorem dJ0_checkIndex_df160_8 : decode cJ0_checkIndex_df160 8 = .ok (.pop, 1) := by decide +kernel
theorem dJ0_checkIndex_df160_9 : decode cJ0_checkIndex_df160 9 = .ok (.return_, 1) := by decide +kernel
end
section
theorem dJ1_charAt_3b067_0 : decode cJ1_charAt_3b067 0 = .ok (.iload_n 1, 1) := by decide +kernel
theorem dJ1_charAt_3b067_1 : decode cJ1_charAt_3b067 1 = .ok (.aload_n 0, 1) := by decide +kernel
theorem dJ1_charAt_3b067_2 : decode cJ1_charAt_3b067 2 = .ok (.arraylength, 1) := by decide +kernel
theorem dJ1_charAt_3b067_3 : decode cJ1_charAt_3b067 3 = .ok (.invokestatic 9, 3) := by decide +kernel
theorem dJ1_charAt_3b067_6 : decode cJ1_charAt_3b067 6 = .ok (.aload_n 0, 1) := by decide +kernel
theorem dJ1_charAt_3b067_7 : decode cJ1_charAt_3b067 7 = .ok (.iload_n 1, 1) := by decide +kernel
theorem dJ1_charAt_3b067_8 : decode cJ1_charAt_3b067 8 = .ok (.baload, 1) := by decide +kernel
theorem dJ1_charAt_3b067_9 : decode cJ1_charAt_3b067 9 = .ok (.sipush 255, 3) := by decide +kernel
theorem dJ1_charAt_3b067_12 : decode cJ1_charAt_3b067 12 = .ok (.iand, 1) := by decide +kernel
theorem dJ1_charAt_3b067_13 : decode cJ1_charAt_3b067 13 = .ok (.i2c, 1) := by decide +kernel
theorem dJ1_charAt_3b067_14 : decode cJ1_charAt_3b067 14 = .ok (.ireturn, 1) := by decide +kernel
end
section
theorem dJ2_getChar_3b067_0 : decode cJ2_getChar_3b067 0 = .ok (.getstatic 44, 3) := by decide +kernel
theorem dJ2_getChar_3b067_3 : decode cJ2_getChar_3b067 3 = .ok (.ifCond .ne 25, 3) := by decide +kernel
theorem dJ2_getChar_3b067_6 : decode cJ2_getChar_3b067 6 = .ok (.iload_n 1, 1) := by decide +kernel
theorem dJ2_getChar_3b067_7 : decode cJ2_getChar_3b067 7 = .ok (.ifCond .lt 11, 3) := by decide +kernel
theorem dJ2_getChar_3b067_10 : decode cJ2_getChar_3b067 10 = .ok (.iload_n 1, 1) := by decide +kernel
theorem dJ2_getChar_3b067_11 : decode cJ2_getChar_3b067 11 = .ok (.aload_n 0, 1) := by decide +kernel
theorem dJ2_getChar_3b067_12 : decode cJ2_getChar_3b067 12 = .ok (.invokestatic 48, 3) := by decide +kernel
theorem dJ2_getChar_3b067_15 : decode cJ2_getChar_3b067 15 = .ok (.if_icmp .lt 13, 3) := by decide +kernel
theorem dJ2_getChar_3b067_18 : decode cJ2_getChar_3b067 18 = .ok (.new 52, 3) := by decide +kernel
theorem dJ2_getChar_3b067_21 : decode cJ2_getChar_3b067 21 = .ok (.dup, 1) := by decide +kernel
theorem dJ2_getChar_3b067_22 : decode cJ2_getChar_3b067 22 = .ok (.ldc 54, 2) := by decide +kernel
theorem dJ2_getChar_3b067_24 : decode cJ2_getChar_3b067 24 = .ok (.invokespecial 56, 3) := by decide +kernel
theorem dJ2_getChar_3b067_27 : decode cJ2_getChar_3b067 27 = .ok (.athrow, 1) := by decide +kernel
theorem dJ2_getChar_3b067_28 : decode cJ2_getChar_3b067 28 = .ok (.iload_n 1, 1) := by decide +kernel
theorem dJ2_getChar_3b067_29 : decode cJ2_getChar_3b067 29 = .ok (.iconst 1, 1) := by decide +kernel
theorem dJ2_getChar_3b067_30 : decode cJ2_getChar_3b067 30 = .ok (.ishl, 1) := by decide +kernel
theorem dJ2_getChar_3b067_31 : decode cJ2_getChar_3b067 31 = .ok (.istore_n 1, 1) := by decide +kernel
theorem dJ2_getChar_3b067_32 : decode cJ2_getChar_3b067 32 = .ok (.aload_n 0, 1) := by decide +kernel
theorem dJ2_getChar_3b067_33 : decode cJ2_getChar_3b067 33 = .ok (.iload_n 1, 1) := by decide +kernel
theorem dJ2_getChar_3b067_34 : decode cJ2_getChar_3b067 34 = .ok (.iinc 1 1, 3) := by decide +kernel
theorem dJ2_getChar_3b067_37 : decode cJ2_getChar_3b067 37 = .ok (.baload, 1) := by decide +kernel
theorem dJ2_getChar_3b067_38 : decode cJ2_getChar_3b067 38 = .ok (.sipush 255, 3) := by decide +kernel
theorem dJ2_getChar_3b067_41 : decode cJ2_getChar_3b067 41 = .ok (.iand, 1) := by decide +kernel
theorem dJ2_getChar_3b067_42 : decode cJ2_getChar_3b067 42 = .ok (.getstatic 59, 3) := by decide +kernel
theorem dJ2_getChar_3b067_45 : decode cJ2_getChar_3b067 45 = .ok (.ishl, 1) := by decide +kernel
theorem dJ2_getChar_3b067_46 : decode cJ2_getChar_3b067 46 = .ok (.aload_n 0, 1) := by decide +kernel
theorem dJ2_getChar_3b067_47 : decode cJ2_getChar_3b067 47 = .ok (.iload_n 1, 1) := by decide +kernel
theorem dJ2_getChar_3b067_48 : decode cJ2_getChar_3b067 48 = .ok (.baload, 1) := by decide +kernel
theorem dJ2_getChar_3b067_49 : decode cJ2_getChar_3b067 49 = .ok (.sipush 255, 3) := by decide +kernel
theorem dJ2_getChar_3b067_52 : decode cJ2_getChar_3b067 52 = .ok (.iand, 1) := by decide +kernel
theorem dJ2_getChar_3b067_53 : decode cJ2_getChar_3b067 53 = .ok (.getstatic 63, 3) := by decide +kernel
theorem dJ2_getChar_3b067_56 : decode cJ2_getChar_3b067 56 = .ok (.ishl, 1) := by decide +kernel
theorem dJ2_getChar_3b067_57 : decode cJ2_getChar_3b067 57 = .ok (.ior, 1) := by decide +kernel
theorem dJ2_getChar_3b067_58 : decode cJ2_getChar_3b067 58 = .ok (.i2c, 1) := by decide +kernel
theorem dJ2_getChar_3b067_59 : decode cJ2_getChar_3b067 59 = .ok (.ireturn, 1) := by decide +kernel
theorem dJ2_length_9d52b_0 : decode cJ2_length_9d52b 0 = .ok (.aload_n 0, 1) := by decide +kernel
theorem dJ2_length_9d52b_1 : decode cJ2_length_9d52b 1 = .ok (.arraylength, 1) := by decide +kernel
theorem dJ2_length_9d52b_2 : decode cJ2_length_9d52b 2 = .ok (.iconst 1, 1) := by decide +kernel
theorem dJ2_length_9d52b_3 : decode cJ2_length_9d52b 3 = .ok (.ishr, 1) := by decide +kernel
theorem dJ2_length_9d52b_4 : decode cJ2_length_9d52b 4 = .ok (.ireturn, 1) := by decide +kernel
theorem dJ2_charAt_3b067_0 : decode cJ2_charAt_3b067 0 = .ok (.iload_n 1, 1) := by decide +kernel
theorem dJ2_charAt_3b067_1 : decode cJ2_charAt_3b067 1 = .ok (.aload_n 0, 1) := by decide +kernel
theorem dJ2_charAt_3b067_2 : decode cJ2_charAt_3b067 2 = .ok (.invokestatic 67, 3) := by decide +kernel
theorem dJ2_charAt_3b067_5 : decode cJ2_charAt_3b067 5 = .ok (.aload_n 0, 1) := by decide +kernel
theorem dJ2_charAt_3b067_6 : decode cJ2_charAt_3b067 6 = .ok (.iload_n 1, 1) := by decide +kernel
theorem dJ2_charAt_3b067_7 : decode cJ2_charAt_3b067 7 = .ok (.invokestatic 71, 3) := by decide +kernel
theorem dJ2_charAt_3b067_10 : decode cJ2_charAt_3b067 10 = .ok (.ireturn, 1) := by decide +kernel
theorem dJ2_checkIndex_2214a_0 : decode cJ2_checkIndex_2214a 0 = .ok (.iload_n 0, 1) := by decide +kernel
theorem dJ2_checkIndex_2214a_1 : decode cJ2_checkIndex_2214a 1 = .ok (.aload_n 1, 1) := by decide +kernel
theorem dJ2_checkIndex_2214a_2 : decode cJ2_checkIndex_2214a 2 = .ok (.invokestatic 48, 3) := by decide +kernel
theorem dJ2_checkIndex_2214a_5 : decode cJ2_checkIndex_2214a 5 = .ok (.invokestatic 414, 3) := by decide +kernel
theorem dJ2_checkIndex_2214a_8 : decode cJ2_checkIndex_2214a 8 = .ok (.return_, 1) := by decide +kernel
end
section
theorem dJ3_checkIndex_8e157_0 : decode cJ3_checkIndex_8e157 0 = .ok (.iload_n 0, 1) := by decide +kernel
theorem dJ3_checkIndex_8e157_1 : decode cJ3_checkIndex_8e157 1 = .ok (.ifCond .lt 8, 3) := by decide +kernel
theorem dJ3_checkIndex_8e157_4 : decode cJ3_checkIndex_8e157 4 = .ok (.iload_n 0, 1) := by decide +kernel
theorem dJ3_checkIndex_8e157_5 : decode cJ3_checkIndex_8e157 5 = .ok (.iload_n 1, 1) := by decide +kernel
theorem dJ3_checkIndex_8e157_6 : decode cJ3_checkIndex_8e157 6 = .ok (.if_icmp .lt 10, 3) := by decide +kernel
theorem dJ3_checkIndex_8e157_9 : decode cJ3_checkIndex_8e157 9 = .ok (.aload_n 2, 1) := by decide +kernel
theorem dJ3_checkIndex_8e157_10 : decode cJ3_checkIndex_8e157 10 = .ok (.iload_n 0, 1) := by decide +kernel
theorem dJ3_checkIndex_8e157_11 : decode cJ3_checkIndex_8e157 11 = .ok (.iload_n 1, 1) := by decide +kernel
theorem dJ3_checkIndex_8e157_12 : decode cJ3_checkIndex_8e157 12 = .ok (.invokestatic 95, 3) := by decide +kernel
theorem dJ3_checkIndex_8e157_15 : decode cJ3_checkIndex_8e157 15 = .ok (.athrow, 1) := by decide +kernel
theorem dJ3_checkIndex_8e157_16 : decode cJ3_checkIndex_8e157 16 = .ok (.iload_n 0, 1) := by decide +kernel
theorem dJ3_checkIndex_8e157_17 : decode cJ3_checkIndex_8e157 17 = .ok (.ireturn, 1) := by decide +kernel
end
section
theorem dJ7_copyOf_59c91_0 : decode cJ7_copyOf_59c91 0 = .ok (.iload_n 1, 1) := by decide +kernel
theorem dJ7_copyOf_59c91_1 : decode cJ7_copyOf_59c91 1 = .ok (.aload_n 0, 1) := by decide +kernel
theorem dJ7_copyOf_59c91_2 : decode cJ7_copyOf_59c91 2 = .ok (.arraylength, 1) := by decide +kernel
theorem dJ7_copyOf_59c91_3 : decode cJ7_copyOf_59c91 3 = .ok (.if_icmp .ne 11, 3) := by decide +kernel
theorem dJ7_copyOf_59c91_6 : decode cJ7_copyOf_59c91 6 = .ok (.aload_n 0, 1) := by decide +kernel
theorem dJ7_copyOf_59c91_7 : decode cJ7_copyOf_59c91 7 = .ok (.invokevirtual 316, 3) := by decide +kernel
theorem dJ7_copyOf_59c91_10 : decode cJ7_copyOf_59c91 10 = .ok (.checkcast 317, 3) := by decide +kernel
theorem dJ7_copyOf_59c91_13 : decode cJ7_copyOf_59c91 13 = .ok (.areturn, 1) := by decide +kernel
theorem dJ7_copyOf_59c91_14 : decode cJ7_copyOf_59c91 14 = .ok (.iload_n 1, 1) := by decide +kernel
theorem dJ7_copyOf_59c91_15 : decode cJ7_copyOf_59c91 15 = .ok (.newarray .int, 2) := by decide +kernel
theorem dJ7_copyOf_59c91_17 : decode cJ7_copyOf_59c91 17 = .ok (.astore_n 2, 1) := by decide +kernel
theorem dJ7_copyOf_59c91_18 : decode cJ7_copyOf_59c91 18 = .ok (.aload_n 0, 1) := by decide +kernel
theorem dJ7_copyOf_59c91_19 : decode cJ7_copyOf_59c91 19 = .ok (.iconst 0, 1) := by decide +kernel
theorem dJ7_copyOf_59c91_20 : decode cJ7_copyOf_59c91 20 = .ok (.aload_n 2, 1) := by decide +kernel
theorem dJ7_copyOf_59c91_21 : decode cJ7_copyOf_59c91 21 = .ok (.iconst 0, 1) := by decide +kernel
theorem dJ7_copyOf_59c91_22 : decode cJ7_copyOf_59c91 22 = .ok (.aload_n 0, 1) := by decide +kernel
theorem dJ7_copyOf_59c91_23 : decode cJ7_copyOf_59c91 23 = .ok (.arraylength, 1) := by decide +kernel
theorem dJ7_copyOf_59c91_24 : decode cJ7_copyOf_59c91 24 = .ok (.iload_n 1, 1) := by decide +kernel
theorem dJ7_copyOf_59c91_25 : decode cJ7_copyOf_59c91 25 = .ok (.invokestatic 304, 3) := by decide +kernel
theorem dJ7_copyOf_59c91_28 : decode cJ7_copyOf_59c91 28 = .ok (.invokestatic 150, 3) := by decide +kernel
theorem dJ7_copyOf_59c91_31 : decode cJ7_copyOf_59c91 31 = .ok (.aload_n 2, 1) := by decide +kernel
theorem dJ7_copyOf_59c91_32 : decode cJ7_copyOf_59c91 32 = .ok (.areturn, 1) := by decide +kernel
end
section
theorem dJ9_min_7cf53_0 : decode cJ9_min_7cf53 0 = .ok (.iload_n 0, 1) := by decide +kernel
theorem dJ9_min_7cf53_1 : decode cJ9_min_7cf53 1 = .ok (.iload_n 1, 1) := by decide +kernel
theorem dJ9_min_7cf53_2 : decode cJ9_min_7cf53 2 = .ok (.if_icmp .gt 7, 3) := by decide +kernel
theorem dJ9_min_7cf53_5 : decode cJ9_min_7cf53 5 = .ok (.iload_n 0, 1) := by decide +kernel
theorem dJ9_min_7cf53_6 : decode cJ9_min_7cf53 6 = .ok (.goto 4, 3) := by decide +kernel
theorem dJ9_min_7cf53_9 : decode cJ9_min_7cf53 9 = .ok (.iload_n 1, 1) := by decide +kernel
theorem dJ9_min_7cf53_10 : decode cJ9_min_7cf53 10 = .ok (.ireturn, 1) := by decide +kernel
end
section
theorem dL_parent_0 : decode cL_parent 0 = .ok (.aload 5, 2) := by decide +kernel
theorem dL_parent_2 : decode cL_parent 2 = .ok (.iconst 0, 1) := by decide +kernel
theorem dL_parent_3 : decode cL_parent 3 = .ok (.aload_n 0, 1) := by decide +kernel
theorem dL_parent_4 : decode cL_parent 4 = .ok (.iload_n 1, 1) := by decide +kernel
theorem dL_parent_5 : decode cL_parent 5 = .ok (.iload_n 2, 1) := by decide +kernel
theorem dL_parent_6 : decode cL_parent 6 = .ok (.iload_n 3, 1) := by decide +kernel
theorem dL_parent_7 : decode cL_parent 7 = .ok (.iload 4, 2) := by decide +kernel
theorem dL_parent_9 : decode cL_parent 9 = .ok (.invokevirtual 7, 3) := by decide +kernel
theorem dL_parent_12 : decode cL_parent 12 = .ok (.ifCond .eq 7, 3) := by decide +kernel
theorem dL_parent_15 : decode cL_parent 15 = .ok (.lconst 1, 1) := by decide +kernel
theorem dL_parent_16 : decode cL_parent 16 = .ok (.goto 4, 3) := by decide +kernel
theorem dL_parent_19 : decode cL_parent 19 = .ok (.lconst 0, 1) := by decide +kernel
theorem dL_parent_20 : decode cL_parent 20 = .ok (.lastore, 1) := by decide +kernel
theorem dL_parent_21 : decode cL_parent 21 = .ok (.goto 7, 3) := by decide +kernel
theorem dL_parent_24 : decode cL_parent 24 = .ok (.astore 6, 2) := by decide +kernel
theorem dL_parent_26 : decode cL_parent 26 = .ok (.iconst 1, 1) := by decide +kernel
theorem dL_parent_27 : decode cL_parent 27 = .ok (.ireturn, 1) := by decide +kernel
theorem dL_parent_28 : decode cL_parent 28 = .ok (.iconst 0, 1) := by decide +kernel
theorem dL_parent_29 : decode cL_parent 29 = .ok (.ireturn, 1) := by decide +kernel
theorem dL_grant_0 : decode cL_grant 0 = .ok (.aload 4, 2) := by decide +kernel
theorem dL_grant_2 : decode cL_grant 2 = .ok (.iconst 0, 1) := by decide +kernel
theorem dL_grant_3 : decode cL_grant 3 = .ok (.aload_n 0, 1) := by decide +kernel
theorem dL_grant_4 : decode cL_grant 4 = .ok (.iload_n 1, 1) := by decide +kernel
theorem dL_grant_5 : decode cL_grant 5 = .ok (.iload_n 2, 1) := by decide +kernel
theorem dL_grant_6 : decode cL_grant 6 = .ok (.iload_n 3, 1) := by decide +kernel
theorem dL_grant_7 : decode cL_grant 7 = .ok (.invokevirtual 15, 3) := by decide +kernel
theorem dL_grant_10 : decode cL_grant 10 = .ok (.i2l, 1) := by decide +kernel
theorem dL_grant_11 : decode cL_grant 11 = .ok (.lastore, 1) := by decide +kernel
theorem dL_grant_12 : decode cL_grant 12 = .ok (.goto 7, 3) := by decide +kernel
theorem dL_grant_15 : decode cL_grant 15 = .ok (.astore 5, 2) := by decide +kernel
theorem dL_grant_17 : decode cL_grant 17 = .ok (.iconst 1, 1) := by decide +kernel
theorem dL_grant_18 : decode cL_grant 18 = .ok (.ireturn, 1) := by decide +kernel
theorem dL_grant_19 : decode cL_grant 19 = .ok (.iconst 0, 1) := by decide +kernel
theorem dL_grant_20 : decode cL_grant 20 = .ok (.ireturn, 1) := by decide +kernel
theorem dL_text_0 : decode cL_text 0 = .ok (.aload_n 3, 1) := by decide +kernel
theorem dL_text_1 : decode cL_text 1 = .ok (.iconst 0, 1) := by decide +kernel
theorem dL_text_2 : decode cL_text 2 = .ok (.aload_n 0, 1) := by decide +kernel
theorem dL_text_3 : decode cL_text 3 = .ok (.iload_n 1, 1) := by decide +kernel
theorem dL_text_4 : decode cL_text 4 = .ok (.iload_n 2, 1) := by decide +kernel
theorem dL_text_5 : decode cL_text 5 = .ok (.invokevirtual 19, 3) := by decide +kernel
theorem dL_text_8 : decode cL_text 8 = .ok (.i2l, 1) := by decide +kernel
theorem dL_text_9 : decode cL_text 9 = .ok (.lastore, 1) := by decide +kernel
theorem dL_text_10 : decode cL_text 10 = .ok (.goto 7, 3) := by decide +kernel
theorem dL_text_13 : decode cL_text 13 = .ok (.astore 4, 2) := by decide +kernel
theorem dL_text_15 : decode cL_text 15 = .ok (.iconst 1, 1) := by decide +kernel
theorem dL_text_16 : decode cL_text 16 = .ok (.ireturn, 1) := by decide +kernel
theorem dL_text_17 : decode cL_text 17 = .ok (.iconst 0, 1) := by decide +kernel
theorem dL_text_18 : decode cL_text 18 = .ok (.ireturn, 1) := by decide +kernel
theorem dL_about_0 : decode cL_about 0 = .ok (.aload_n 3, 1) := by decide +kernel
theorem dL_about_1 : decode cL_about 1 = .ok (.iconst 0, 1) := by decide +kernel
theorem dL_about_2 : decode cL_about 2 = .ok (.aload_n 0, 1) := by decide +kernel
theorem dL_about_3 : decode cL_about 3 = .ok (.iload_n 1, 1) := by decide +kernel
theorem dL_about_4 : decode cL_about 4 = .ok (.iload_n 2, 1) := by decide +kernel
theorem dL_about_5 : decode cL_about 5 = .ok (.invokevirtual 25, 3) := by decide +kernel
theorem dL_about_8 : decode cL_about 8 = .ok (.i2l, 1) := by decide +kernel
theorem dL_about_9 : decode cL_about 9 = .ok (.lastore, 1) := by decide +kernel
theorem dL_about_10 : decode cL_about 10 = .ok (.goto 7, 3) := by decide +kernel
theorem dL_about_13 : decode cL_about 13 = .ok (.astore 4, 2) := by decide +kernel
theorem dL_about_15 : decode cL_about 15 = .ok (.iconst 1, 1) := by decide +kernel
theorem dL_about_16 : decode cL_about 16 = .ok (.ireturn, 1) := by decide +kernel
theorem dL_about_17 : decode cL_about 17 = .ok (.iconst 0, 1) := by decide +kernel
theorem dL_about_18 : decode cL_about 18 = .ok (.ireturn, 1) := by decide +kernel
theorem dL_bears_0 : decode cL_bears 0 = .ok (.aload 4, 2) := by decide +kernel
theorem dL_bears_2 : decode cL_bears 2 = .ok (.iconst 0, 1) := by decide +kernel
theorem dL_bears_3 : decode cL_bears 3 = .ok (.aload_n 0, 1) := by decide +kernel
theorem dL_bears_4 : decode cL_bears 4 = .ok (.iload_n 1, 1) := by decide +kernel
theorem dL_bears_5 : decode cL_bears 5 = .ok (.iload_n 2, 1) := by decide +kernel
theorem dL_bears_6 : decode cL_bears 6 = .ok (.iload_n 3, 1) := by decide +kernel
theorem dL_bears_7 : decode cL_bears 7 = .ok (.invokevirtual 28, 3) := by decide +kernel
theorem dL_bears_10 : decode cL_bears 10 = .ok (.i2l, 1) := by decide +kernel
theorem dL_bears_11 : decode cL_bears 11 = .ok (.lastore, 1) := by decide +kernel
theorem dL_bears_12 : decode cL_bears 12 = .ok (.goto 7, 3) := by decide +kernel
theorem dL_bears_15 : decode cL_bears 15 = .ok (.astore 5, 2) := by decide +kernel
theorem dL_bears_17 : decode cL_bears 17 = .ok (.iconst 1, 1) := by decide +kernel
theorem dL_bears_18 : decode cL_bears 18 = .ok (.ireturn, 1) := by decide +kernel
theorem dL_bears_19 : decode cL_bears 19 = .ok (.iconst 0, 1) := by decide +kernel
theorem dL_bears_20 : decode cL_bears 20 = .ok (.ireturn, 1) := by decide +kernel
theorem dL_mark_0 : decode cL_mark 0 = .ok (.aload 4, 2) := by decide +kernel
theorem dL_mark_2 : decode cL_mark 2 = .ok (.iconst 0, 1) := by decide +kernel
theorem dL_mark_3 : decode cL_mark 3 = .ok (.aload_n 0, 1) := by decide +kernel
theorem dL_mark_4 : decode cL_mark 4 = .ok (.iload_n 1, 1) := by decide +kernel
theorem dL_mark_5 : decode cL_mark 5 = .ok (.iload_n 2, 1) := by decide +kernel
theorem dL_mark_6 : decode cL_mark 6 = .ok (.iload_n 3, 1) := by decide +kernel
theorem dL_mark_7 : decode cL_mark 7 = .ok (.invokevirtual 31, 3) := by decide +kernel
theorem dL_mark_10 : decode cL_mark 10 = .ok (.i2l, 1) := by decide +kernel
theorem dL_mark_11 : decode cL_mark 11 = .ok (.lastore, 1) := by decide +kernel
theorem dL_mark_12 : decode cL_mark 12 = .ok (.goto 7, 3) := by decide +kernel
theorem dL_mark_15 : decode cL_mark 15 = .ok (.astore 5, 2) := by decide +kernel
theorem dL_mark_17 : decode cL_mark 17 = .ok (.iconst 1, 1) := by decide +kernel
theorem dL_mark_18 : decode cL_mark 18 = .ok (.ireturn, 1) := by decide +kernel
theorem dL_mark_19 : decode cL_mark 19 = .ok (.iconst 0, 1) := by decide +kernel
theorem dL_mark_20 : decode cL_mark 20 = .ok (.ireturn, 1) := by decide +kernel
theorem dL_head_0 : decode cL_head 0 = .ok (.aload_n 3, 1) := by decide +kernel
theorem dL_head_1 : decode cL_head 1 = .ok (.iconst 0, 1) := by decide +kernel
theorem dL_head_2 : decode cL_head 2 = .ok (.aload_n 0, 1) := by decide +kernel
theorem dL_head_3 : decode cL_head 3 = .ok (.iload_n 1, 1) := by decide +kernel
theorem dL_head_4 : decode cL_head 4 = .ok (.iload_n 2, 1) := by decide +kernel
theorem dL_head_5 : decode cL_head 5 = .ok (.invokevirtual 34, 3) := by decide +kernel
theorem dL_head_8 : decode cL_head 8 = .ok (.i2l, 1) := by decide +kernel
theorem dL_head_9 : decode cL_head 9 = .ok (.lastore, 1) := by decide +kernel
theorem dL_head_10 : decode cL_head 10 = .ok (.goto 7, 3) := by decide +kernel
theorem dL_head_13 : decode cL_head 13 = .ok (.astore 4, 2) := by decide +kernel
theorem dL_head_15 : decode cL_head 15 = .ok (.iconst 1, 1) := by decide +kernel
theorem dL_head_16 : decode cL_head 16 = .ok (.ireturn, 1) := by decide +kernel
theorem dL_head_17 : decode cL_head 17 = .ok (.iconst 0, 1) := by decide +kernel
theorem dL_head_18 : decode cL_head 18 = .ok (.ireturn, 1) := by decide +kernel
theorem dL_quarter_0 : decode cL_quarter 0 = .ok (.aload 4, 2) := by decide +kernel
theorem dL_quarter_2 : decode cL_quarter 2 = .ok (.iconst 0, 1) := by decide +kernel
theorem dL_quarter_3 : decode cL_quarter 3 = .ok (.aload_n 0, 1) := by decide +kernel
theorem dL_quarter_4 : decode cL_quarter 4 = .ok (.iload_n 1, 1) := by decide +kernel
theorem dL_quarter_5 : decode cL_quarter 5 = .ok (.iload_n 2, 1) := by decide +kernel
theorem dL_quarter_6 : decode cL_quarter 6 = .ok (.iload_n 3, 1) := by decide +kernel
theorem dL_quarter_7 : decode cL_quarter 7 = .ok (.invokevirtual 37, 3) := by decide +kernel
theorem dL_quarter_10 : decode cL_quarter 10 = .ok (.i2l, 1) := by decide +kernel
theorem dL_quarter_11 : decode cL_quarter 11 = .ok (.lastore, 1) := by decide +kernel
theorem dL_quarter_12 : decode cL_quarter 12 = .ok (.goto 7, 3) := by decide +kernel
theorem dL_quarter_15 : decode cL_quarter 15 = .ok (.astore 5, 2) := by decide +kernel
theorem dL_quarter_17 : decode cL_quarter 17 = .ok (.iconst 1, 1) := by decide +kernel
theorem dL_quarter_18 : decode cL_quarter 18 = .ok (.ireturn, 1) := by decide +kernel
theorem dL_quarter_19 : decode cL_quarter 19 = .ok (.iconst 0, 1) := by decide +kernel
theorem dL_quarter_20 : decode cL_quarter 20 = .ok (.ireturn, 1) := by decide +kernel
theorem dL_claim_0 : decode cL_claim 0 = .ok (.aload 4, 2) := by decide +kernel
theorem dL_claim_2 : decode cL_claim 2 = .ok (.iconst 0, 1) := by decide +kernel
theorem dL_claim_3 : decode cL_claim 3 = .ok (.aload_n 0, 1) := by decide +kernel
theorem dL_claim_4 : decode cL_claim 4 = .ok (.iload_n 1, 1) := by decide +kernel
theorem dL_claim_5 : decode cL_claim 5 = .ok (.iload_n 2, 1) := by decide +kernel
theorem dL_claim_6 : decode cL_claim 6 = .ok (.iload_n 3, 1) := by decide +kernel
theorem dL_claim_7 : decode cL_claim 7 = .ok (.invokevirtual 40, 3) := by decide +kernel
theorem dL_claim_10 : decode cL_claim 10 = .ok (.i2l, 1) := by decide +kernel
theorem dL_claim_11 : decode cL_claim 11 = .ok (.lastore, 1) := by decide +kernel
theorem dL_claim_12 : decode cL_claim 12 = .ok (.goto 7, 3) := by decide +kernel
theorem dL_claim_15 : decode cL_claim 15 = .ok (.astore 5, 2) := by decide +kernel
theorem dL_claim_17 : decode cL_claim 17 = .ok (.iconst 1, 1) := by decide +kernel
theorem dL_claim_18 : decode cL_claim 18 = .ok (.ireturn, 1) := by decide +kernel
theorem dL_claim_19 : decode cL_claim 19 = .ok (.iconst 0, 1) := by decide +kernel
theorem dL_claim_20 : decode cL_claim 20 = .ok (.ireturn, 1) := by decide +kernel
theorem dL_fee_0 : decode cL_fee 0 = .ok (.aload_n 3, 1) := by decide +kernel
theorem dL_fee_1 : decode cL_fee 1 = .ok (.iconst 0, 1) := by decide +kernel
theorem dL_fee_2 : decode cL_fee 2 = .ok (.aload_n 0, 1) := by decide +kernel
theorem dL_fee_3 : decode cL_fee 3 = .ok (.iload_n 1, 1) := by decide +kernel
theorem dL_fee_4 : decode cL_fee 4 = .ok (.iload_n 2, 1) := by decide +kernel
theorem dL_fee_5 : decode cL_fee 5 = .ok (.invokevirtual 43, 3) := by decide +kernel
theorem dL_fee_8 : decode cL_fee 8 = .ok (.i2l, 1) := by decide +kernel
theorem dL_fee_9 : decode cL_fee 9 = .ok (.lastore, 1) := by decide +kernel
theorem dL_fee_10 : decode cL_fee 10 = .ok (.goto 7, 3) := by decide +kernel
theorem dL_fee_13 : decode cL_fee 13 = .ok (.astore 4, 2) := by decide +kernel
theorem dL_fee_15 : decode cL_fee 15 = .ok (.iconst 1, 1) := by decide +kernel
theorem dL_fee_16 : decode cL_fee 16 = .ok (.ireturn, 1) := by decide +kernel
theorem dL_fee_17 : decode cL_fee 17 = .ok (.iconst 0, 1) := by decide +kernel
theorem dL_fee_18 : decode cL_fee 18 = .ok (.ireturn, 1) := by decide +kernel
theorem dL_rivals_0 : decode cL_rivals 0 = .ok (.aload_n 3, 1) := by decide +kernel
theorem dL_rivals_1 : decode cL_rivals 1 = .ok (.iconst 0, 1) := by decide +kernel
theorem dL_rivals_2 : decode cL_rivals 2 = .ok (.aload_n 0, 1) := by decide +kernel
theorem dL_rivals_3 : decode cL_rivals 3 = .ok (.iload_n 1, 1) := by decide +kernel
theorem dL_rivals_4 : decode cL_rivals 4 = .ok (.iload_n 2, 1) := by decide +kernel
theorem dL_rivals_5 : decode cL_rivals 5 = .ok (.invokevirtual 46, 3) := by decide +kernel
theorem dL_rivals_8 : decode cL_rivals 8 = .ok (.i2l, 1) := by decide +kernel
theorem dL_rivals_9 : decode cL_rivals 9 = .ok (.lastore, 1) := by decide +kernel
theorem dL_rivals_10 : decode cL_rivals 10 = .ok (.goto 7, 3) := by decide +kernel
theorem dL_rivals_13 : decode cL_rivals 13 = .ok (.astore 4, 2) := by decide +kernel
theorem dL_rivals_15 : decode cL_rivals 15 = .ok (.iconst 1, 1) := by decide +kernel
theorem dL_rivals_16 : decode cL_rivals 16 = .ok (.ireturn, 1) := by decide +kernel
theorem dL_rivals_17 : decode cL_rivals 17 = .ok (.iconst 0, 1) := by decide +kernel
theorem dL_rivals_18 : decode cL_rivals 18 = .ok (.ireturn, 1) := by decide +kernel
theorem dL_common_0 : decode cL_common 0 = .ok (.aload_n 3, 1) := by decide +kernel
theorem dL_common_1 : decode cL_common 1 = .ok (.iconst 0, 1) := by decide +kernel
theorem dL_common_2 : decode cL_common 2 = .ok (.aload_n 0, 1) := by decide +kernel
theorem dL_common_3 : decode cL_common 3 = .ok (.iload_n 1, 1) := by decide +kernel
theorem dL_common_4 : decode cL_common 4 = .ok (.iload_n 2, 1) := by decide +kernel
theorem dL_common_5 : decode cL_common 5 = .ok (.invokevirtual 49, 3) := by decide +kernel
theorem dL_common_8 : decode cL_common 8 = .ok (.i2l, 1) := by decide +kernel
theorem dL_common_9 : decode cL_common 9 = .ok (.lastore, 1) := by decide +kernel
theorem dL_common_10 : decode cL_common 10 = .ok (.goto 7, 3) := by decide +kernel
theorem dL_common_13 : decode cL_common 13 = .ok (.astore 4, 2) := by decide +kernel
theorem dL_common_15 : decode cL_common 15 = .ok (.iconst 1, 1) := by decide +kernel
theorem dL_common_16 : decode cL_common 16 = .ok (.ireturn, 1) := by decide +kernel
theorem dL_common_17 : decode cL_common 17 = .ok (.iconst 0, 1) := by decide +kernel
theorem dL_common_18 : decode cL_common 18 = .ok (.ireturn, 1) := by decide +kernel
theorem dL_of_0 : decode cL_of 0 = .ok (.aload_n 3, 1) := by decide +kernel
theorem dL_of_1 : decode cL_of 1 = .ok (.iconst 0, 1) := by decide +kernel
theorem dL_of_2 : decode cL_of 2 = .ok (.aload_n 0, 1) := by decide +kernel
theorem dL_of_3 : decode cL_of 3 = .ok (.iload_n 1, 1) := by decide +kernel
theorem dL_of_4 : decode cL_of 4 = .ok (.iload_n 2, 1) := by decide +kernel
theorem dL_of_5 : decode cL_of 5 = .ok (.invokevirtual 52, 3) := by decide +kernel
theorem dL_of_8 : decode cL_of 8 = .ok (.i2l, 1) := by decide +kernel
theorem dL_of_9 : decode cL_of 9 = .ok (.lastore, 1) := by decide +kernel
theorem dL_of_10 : decode cL_of 10 = .ok (.goto 7, 3) := by decide +kernel
theorem dL_of_13 : decode cL_of 13 = .ok (.astore 4, 2) := by decide +kernel
theorem dL_of_15 : decode cL_of 15 = .ok (.iconst 1, 1) := by decide +kernel
theorem dL_of_16 : decode cL_of 16 = .ok (.ireturn, 1) := by decide +kernel
theorem dL_of_17 : decode cL_of 17 = .ok (.iconst 0, 1) := by decide +kernel
theorem dL_of_18 : decode cL_of 18 = .ok (.ireturn, 1) := by decide +kernel
theorem dL_count_0 : decode cL_count 0 = .ok (.aload_n 2, 1) := by decide +kernel
theorem dL_count_1 : decode cL_count 1 = .ok (.iconst 0, 1) := by decide +kernel
theorem dL_count_2 : decode cL_count 2 = .ok (.aload_n 0, 1) := by decide +kernel
theorem dL_count_3 : decode cL_count 3 = .ok (.iload_n 1, 1) := by decide +kernel
theorem dL_count_4 : decode cL_count 4 = .ok (.invokevirtual 55, 3) := by decide +kernel
theorem dL_count_7 : decode cL_count 7 = .ok (.i2l, 1) := by decide +kernel
theorem dL_count_8 : decode cL_count 8 = .ok (.lastore, 1) := by decide +kernel
theorem dL_count_9 : decode cL_count 9 = .ok (.goto 6, 3) := by decide +kernel
theorem dL_count_12 : decode cL_count 12 = .ok (.astore_n 3, 1) := by decide +kernel
theorem dL_count_13 : decode cL_count 13 = .ok (.iconst 1, 1) := by decide +kernel
theorem dL_count_14 : decode cL_count 14 = .ok (.ireturn, 1) := by decide +kernel
theorem dL_count_15 : decode cL_count 15 = .ok (.iconst 0, 1) := by decide +kernel
theorem dL_count_16 : decode cL_count 16 = .ok (.ireturn, 1) := by decide +kernel
theorem dL_law_0 : decode cL_law 0 = .ok (.new 8, 3) := by decide +kernel
theorem dL_law_3 : decode cL_law 3 = .ok (.dup, 1) := by decide +kernel
theorem dL_law_4 : decode cL_law 4 = .ok (.invokespecial 59, 3) := by decide +kernel
theorem dL_law_7 : decode cL_law 7 = .ok (.astore_n 1, 1) := by decide +kernel
theorem dL_law_8 : decode cL_law 8 = .ok (.new 60, 3) := by decide +kernel
theorem dL_law_11 : decode cL_law 11 = .ok (.dup, 1) := by decide +kernel
theorem dL_law_12 : decode cL_law 12 = .ok (.invokespecial 62, 3) := by decide +kernel
theorem dL_law_15 : decode cL_law 15 = .ok (.astore_n 2, 1) := by decide +kernel
theorem dL_law_16 : decode cL_law 16 = .ok (.iconst 1, 1) := by decide +kernel
theorem dL_law_17 : decode cL_law 17 = .ok (.newarray .long, 2) := by decide +kernel
theorem dL_law_19 : decode cL_law 19 = .ok (.astore_n 3, 1) := by decide +kernel
theorem dL_law_20 : decode cL_law 20 = .ok (.iconst 0, 1) := by decide +kernel
theorem dL_law_21 : decode cL_law 21 = .ok (.istore 4, 2) := by decide +kernel
theorem dL_law_23 : decode cL_law 23 = .ok (.iload 4, 2) := by decide +kernel
theorem dL_law_25 : decode cL_law 25 = .ok (.aload_n 0, 1) := by decide +kernel
theorem dL_law_26 : decode cL_law 26 = .ok (.arraylength, 1) := by decide +kernel
theorem dL_law_27 : decode cL_law 27 = .ok (.bipush 6, 2) := by decide +kernel
theorem dL_law_29 : decode cL_law 29 = .ok (.isub, 1) := by decide +kernel
theorem dL_law_30 : decode cL_law 30 = .ok (.if_icmp .gt 1323, 3) := by decide +kernel
theorem dL_law_33 : decode cL_law 33 = .ok (.aload_n 0, 1) := by decide +kernel
theorem dL_law_34 : decode cL_law 34 = .ok (.iload 4, 2) := by decide +kernel
theorem dL_law_36 : decode cL_law 36 = .ok (.iaload, 1) := by decide +kernel
theorem dL_law_37 : decode cL_law 37 = .ok (.bipush 31, 2) := by decide +kernel
theorem dL_law_39 : decode cL_law 39 = .ok (.iand, 1) := by decide +kernel
theorem dL_law_40 : decode cL_law 40 = .ok (.tableswitch 1307 0 17 #[88, 153, 252, 332, 405, 473, 486, 554, 634, 714, 782, 862, 942, 1010, 1078, 1146, 1183, 1251], 88) := by decide +kernel
theorem dL_law_128 : decode cL_law 128 = .ok (.aload_n 1, 1) := by decide +kernel
theorem dL_law_129 : decode cL_law 129 = .ok (.aload_n 0, 1) := by decide +kernel
theorem dL_law_130 : decode cL_law 130 = .ok (.iload 4, 2) := by decide +kernel
theorem dL_law_132 : decode cL_law 132 = .ok (.iconst 1, 1) := by decide +kernel
theorem dL_law_133 : decode cL_law 133 = .ok (.iadd, 1) := by decide +kernel
theorem dL_law_134 : decode cL_law 134 = .ok (.iaload, 1) := by decide +kernel
theorem dL_law_135 : decode cL_law 135 = .ok (.ifCond .eq 7, 3) := by decide +kernel
theorem dL_law_138 : decode cL_law 138 = .ok (.iconst 1, 1) := by decide +kernel
theorem dL_law_139 : decode cL_law 139 = .ok (.goto 4, 3) := by decide +kernel
theorem dL_law_142 : decode cL_law 142 = .ok (.iconst 0, 1) := by decide +kernel
theorem dL_law_143 : decode cL_law 143 = .ok (.aload_n 0, 1) := by decide +kernel
theorem dL_law_144 : decode cL_law 144 = .ok (.iload 4, 2) := by decide +kernel
theorem dL_law_146 : decode cL_law 146 = .ok (.iconst 2, 1) := by decide +kernel
theorem dL_law_147 : decode cL_law 147 = .ok (.iadd, 1) := by decide +kernel
theorem dL_law_148 : decode cL_law 148 = .ok (.iaload, 1) := by decide +kernel
theorem dL_law_149 : decode cL_law 149 = .ok (.aload_n 0, 1) := by decide +kernel
theorem dL_law_150 : decode cL_law 150 = .ok (.iload 4, 2) := by decide +kernel
theorem dL_law_152 : decode cL_law 152 = .ok (.iconst 3, 1) := by decide +kernel
theorem dL_law_153 : decode cL_law 153 = .ok (.iadd, 1) := by decide +kernel
theorem dL_law_154 : decode cL_law 154 = .ok (.iaload, 1) := by decide +kernel
theorem dL_law_155 : decode cL_law 155 = .ok (.invokevirtual 63, 3) := by decide +kernel
theorem dL_law_158 : decode cL_law 158 = .ok (.aload_n 2, 1) := by decide +kernel
theorem dL_law_159 : decode cL_law 159 = .ok (.aload_n 0, 1) := by decide +kernel
theorem dL_law_160 : decode cL_law 160 = .ok (.iload 4, 2) := by decide +kernel
theorem dL_law_162 : decode cL_law 162 = .ok (.iconst 1, 1) := by decide +kernel
theorem dL_law_163 : decode cL_law 163 = .ok (.iadd, 1) := by decide +kernel
theorem dL_law_164 : decode cL_law 164 = .ok (.iaload, 1) := by decide +kernel
theorem dL_law_165 : decode cL_law 165 = .ok (.ifCond .eq 7, 3) := by decide +kernel
theorem dL_law_168 : decode cL_law 168 = .ok (.iconst 1, 1) := by decide +kernel
theorem dL_law_169 : decode cL_law 169 = .ok (.goto 4, 3) := by decide +kernel
theorem dL_law_172 : decode cL_law 172 = .ok (.iconst 0, 1) := by decide +kernel
theorem dL_law_173 : decode cL_law 173 = .ok (.aload_n 0, 1) := by decide +kernel
theorem dL_law_174 : decode cL_law 174 = .ok (.iload 4, 2) := by decide +kernel
theorem dL_law_176 : decode cL_law 176 = .ok (.iconst 2, 1) := by decide +kernel
theorem dL_law_177 : decode cL_law 177 = .ok (.iadd, 1) := by decide +kernel
theorem dL_law_178 : decode cL_law 178 = .ok (.iaload, 1) := by decide +kernel
theorem dL_law_179 : decode cL_law 179 = .ok (.aload_n 0, 1) := by decide +kernel
theorem dL_law_180 : decode cL_law 180 = .ok (.iload 4, 2) := by decide +kernel
theorem dL_law_182 : decode cL_law 182 = .ok (.iconst 3, 1) := by decide +kernel
theorem dL_law_183 : decode cL_law 183 = .ok (.iadd, 1) := by decide +kernel
theorem dL_law_184 : decode cL_law 184 = .ok (.iaload, 1) := by decide +kernel
theorem dL_law_185 : decode cL_law 185 = .ok (.invokevirtual 67, 3) := by decide +kernel
theorem dL_law_188 : decode cL_law 188 = .ok (.if_icmp .eq 1159, 3) := by decide +kernel
theorem dL_law_191 : decode cL_law 191 = .ok (.iconst 0, 1) := by decide +kernel
theorem dL_law_192 : decode cL_law 192 = .ok (.ireturn, 1) := by decide +kernel
theorem dL_law_193 : decode cL_law 193 = .ok (.aload_n 1, 1) := by decide +kernel
theorem dL_law_194 : decode cL_law 194 = .ok (.aload_n 0, 1) := by decide +kernel
theorem dL_law_195 : decode cL_law 195 = .ok (.iload 4, 2) := by decide +kernel
theorem dL_law_197 : decode cL_law 197 = .ok (.iconst 1, 1) := by decide +kernel
theorem dL_law_198 : decode cL_law 198 = .ok (.iadd, 1) := by decide +kernel
theorem dL_law_199 : decode cL_law 199 = .ok (.iaload, 1) := by decide +kernel
theorem dL_law_200 : decode cL_law 200 = .ok (.aload_n 0, 1) := by decide +kernel
theorem dL_law_201 : decode cL_law 201 = .ok (.iload 4, 2) := by decide +kernel
theorem dL_law_203 : decode cL_law 203 = .ok (.iconst 2, 1) := by decide +kernel
theorem dL_law_204 : decode cL_law 204 = .ok (.iadd, 1) := by decide +kernel
theorem dL_law_205 : decode cL_law 205 = .ok (.iaload, 1) := by decide +kernel
theorem dL_law_206 : decode cL_law 206 = .ok (.aload_n 0, 1) := by decide +kernel
theorem dL_law_207 : decode cL_law 207 = .ok (.iload 4, 2) := by decide +kernel
theorem dL_law_209 : decode cL_law 209 = .ok (.iconst 3, 1) := by decide +kernel
theorem dL_law_210 : decode cL_law 210 = .ok (.iadd, 1) := by decide +kernel
theorem dL_law_211 : decode cL_law 211 = .ok (.iaload, 1) := by decide +kernel
theorem dL_law_212 : decode cL_law 212 = .ok (.aload_n 0, 1) := by decide +kernel
theorem dL_law_213 : decode cL_law 213 = .ok (.iload 4, 2) := by decide +kernel
theorem dL_law_215 : decode cL_law 215 = .ok (.iconst 4, 1) := by decide +kernel
theorem dL_law_216 : decode cL_law 216 = .ok (.iadd, 1) := by decide +kernel
theorem dL_law_217 : decode cL_law 217 = .ok (.iaload, 1) := by decide +kernel
theorem dL_law_218 : decode cL_law 218 = .ok (.aload_n 3, 1) := by decide +kernel
theorem dL_law_219 : decode cL_law 219 = .ok (.invokestatic 68, 3) := by decide +kernel
theorem dL_law_222 : decode cL_law 222 = .ok (.istore 5, 2) := by decide +kernel
theorem dL_law_224 : decode cL_law 224 = .ok (.aload_n 2, 1) := by decide +kernel
theorem dL_law_225 : decode cL_law 225 = .ok (.aload_n 0, 1) := by decide +kernel
theorem dL_law_226 : decode cL_law 226 = .ok (.iload 4, 2) := by decide +kernel
theorem dL_law_228 : decode cL_law 228 = .ok (.iconst 1, 1) := by decide +kernel
theorem dL_law_229 : decode cL_law 229 = .ok (.iadd, 1) := by decide +kernel
theorem dL_law_230 : decode cL_law 230 = .ok (.iaload, 1) := by decide +kernel
theorem dL_law_231 : decode cL_law 231 = .ok (.aload_n 0, 1) := by decide +kernel
theorem dL_law_232 : decode cL_law 232 = .ok (.iload 4, 2) := by decide +kernel
theorem dL_law_234 : decode cL_law 234 = .ok (.iconst 2, 1) := by decide +kernel
theorem dL_law_235 : decode cL_law 235 = .ok (.iadd, 1) := by decide +kernel
theorem dL_law_236 : decode cL_law 236 = .ok (.iaload, 1) := by decide +kernel
theorem dL_law_237 : decode cL_law 237 = .ok (.aload_n 0, 1) := by decide +kernel
theorem dL_law_238 : decode cL_law 238 = .ok (.iload 4, 2) := by decide +kernel
theorem dL_law_240 : decode cL_law 240 = .ok (.iconst 3, 1) := by decide +kernel
theorem dL_law_241 : decode cL_law 241 = .ok (.iadd, 1) := by decide +kernel
theorem dL_law_242 : decode cL_law 242 = .ok (.iaload, 1) := by decide +kernel
theorem dL_law_243 : decode cL_law 243 = .ok (.aload_n 0, 1) := by decide +kernel
theorem dL_law_244 : decode cL_law 244 = .ok (.iload 4, 2) := by decide +kernel
theorem dL_law_246 : decode cL_law 246 = .ok (.iconst 4, 1) := by decide +kernel
theorem dL_law_247 : decode cL_law 247 = .ok (.iadd, 1) := by decide +kernel
theorem dL_law_248 : decode cL_law 248 = .ok (.iaload, 1) := by decide +kernel
theorem dL_law_249 : decode cL_law 249 = .ok (.invokevirtual 73, 3) := by decide +kernel
theorem dL_law_252 : decode cL_law 252 = .ok (.istore 6, 2) := by decide +kernel
theorem dL_law_254 : decode cL_law 254 = .ok (.aload_n 2, 1) := by decide +kernel
theorem dL_law_255 : decode cL_law 255 = .ok (.invokevirtual 74, 3) := by decide +kernel
theorem dL_law_258 : decode cL_law 258 = .ok (.iload 5, 2) := by decide +kernel
theorem dL_law_260 : decode cL_law 260 = .ok (.if_icmp .eq 5, 3) := by decide +kernel
theorem dL_law_263 : decode cL_law 263 = .ok (.iconst 0, 1) := by decide +kernel
theorem dL_law_264 : decode cL_law 264 = .ok (.ireturn, 1) := by decide +kernel
theorem dL_law_265 : decode cL_law 265 = .ok (.iload 5, 2) := by decide +kernel
theorem dL_law_267 : decode cL_law 267 = .ok (.ifCond .ne 22, 3) := by decide +kernel
theorem dL_law_270 : decode cL_law 270 = .ok (.aload_n 3, 1) := by decide +kernel
theorem dL_law_271 : decode cL_law 271 = .ok (.iconst 0, 1) := by decide +kernel
theorem dL_law_272 : decode cL_law 272 = .ok (.laload, 1) := by decide +kernel
theorem dL_law_273 : decode cL_law 273 = .ok (.iload 6, 2) := by decide +kernel
theorem dL_law_275 : decode cL_law 275 = .ok (.ifCond .eq 7, 3) := by decide +kernel
theorem dL_law_278 : decode cL_law 278 = .ok (.lconst 1, 1) := by decide +kernel
theorem dL_law_279 : decode cL_law 279 = .ok (.goto 4, 3) := by decide +kernel
theorem dL_law_282 : decode cL_law 282 = .ok (.lconst 0, 1) := by decide +kernel
theorem dL_law_283 : decode cL_law 283 = .ok (.lcmp, 1) := by decide +kernel
theorem dL_law_284 : decode cL_law 284 = .ok (.ifCond .eq 5, 3) := by decide +kernel
theorem dL_law_287 : decode cL_law 287 = .ok (.iconst 0, 1) := by decide +kernel
theorem dL_law_288 : decode cL_law 288 = .ok (.ireturn, 1) := by decide +kernel
theorem dL_law_289 : decode cL_law 289 = .ok (.goto 1058, 3) := by decide +kernel
theorem dL_law_292 : decode cL_law 292 = .ok (.aload_n 1, 1) := by decide +kernel
theorem dL_law_293 : decode cL_law 293 = .ok (.aload_n 0, 1) := by decide +kernel
theorem dL_law_294 : decode cL_law 294 = .ok (.iload 4, 2) := by decide +kernel
theorem dL_law_296 : decode cL_law 296 = .ok (.iconst 1, 1) := by decide +kernel
theorem dL_law_297 : decode cL_law 297 = .ok (.iadd, 1) := by decide +kernel
theorem dL_law_298 : decode cL_law 298 = .ok (.iaload, 1) := by decide +kernel
theorem dL_law_299 : decode cL_law 299 = .ok (.aload_n 0, 1) := by decide +kernel
theorem dL_law_300 : decode cL_law 300 = .ok (.iload 4, 2) := by decide +kernel
theorem dL_law_302 : decode cL_law 302 = .ok (.iconst 2, 1) := by decide +kernel
theorem dL_law_303 : decode cL_law 303 = .ok (.iadd, 1) := by decide +kernel
theorem dL_law_304 : decode cL_law 304 = .ok (.iaload, 1) := by decide +kernel
theorem dL_law_305 : decode cL_law 305 = .ok (.aload_n 0, 1) := by decide +kernel
theorem dL_law_306 : decode cL_law 306 = .ok (.iload 4, 2) := by decide +kernel
theorem dL_law_308 : decode cL_law 308 = .ok (.iconst 3, 1) := by decide +kernel
theorem dL_law_309 : decode cL_law 309 = .ok (.iadd, 1) := by decide +kernel
theorem dL_law_310 : decode cL_law 310 = .ok (.iaload, 1) := by decide +kernel
theorem dL_law_311 : decode cL_law 311 = .ok (.aload_n 3, 1) := by decide +kernel
theorem dL_law_312 : decode cL_law 312 = .ok (.invokestatic 78, 3) := by decide +kernel
theorem dL_law_315 : decode cL_law 315 = .ok (.istore 5, 2) := by decide +kernel
theorem dL_law_317 : decode cL_law 317 = .ok (.aload_n 2, 1) := by decide +kernel
theorem dL_law_318 : decode cL_law 318 = .ok (.aload_n 0, 1) := by decide +kernel
theorem dL_law_319 : decode cL_law 319 = .ok (.iload 4, 2) := by decide +kernel
theorem dL_law_321 : decode cL_law 321 = .ok (.iconst 1, 1) := by decide +kernel
theorem dL_law_322 : decode cL_law 322 = .ok (.iadd, 1) := by decide +kernel
theorem dL_law_323 : decode cL_law 323 = .ok (.iaload, 1) := by decide +kernel
theorem dL_law_324 : decode cL_law 324 = .ok (.aload_n 0, 1) := by decide +kernel
theorem dL_law_325 : decode cL_law 325 = .ok (.iload 4, 2) := by decide +kernel
theorem dL_law_327 : decode cL_law 327 = .ok (.iconst 2, 1) := by decide +kernel
theorem dL_law_328 : decode cL_law 328 = .ok (.iadd, 1) := by decide +kernel
theorem dL_law_329 : decode cL_law 329 = .ok (.iaload, 1) := by decide +kernel
theorem dL_law_330 : decode cL_law 330 = .ok (.aload_n 0, 1) := by decide +kernel
theorem dL_law_331 : decode cL_law 331 = .ok (.iload 4, 2) := by decide +kernel
theorem dL_law_333 : decode cL_law 333 = .ok (.iconst 3, 1) := by decide +kernel
theorem dL_law_334 : decode cL_law 334 = .ok (.iadd, 1) := by decide +kernel
theorem dL_law_335 : decode cL_law 335 = .ok (.iaload, 1) := by decide +kernel
theorem dL_law_336 : decode cL_law 336 = .ok (.invokevirtual 81, 3) := by decide +kernel
theorem dL_law_339 : decode cL_law 339 = .ok (.istore 6, 2) := by decide +kernel
theorem dL_law_341 : decode cL_law 341 = .ok (.aload_n 2, 1) := by decide +kernel
theorem dL_law_342 : decode cL_law 342 = .ok (.invokevirtual 74, 3) := by decide +kernel
theorem dL_law_345 : decode cL_law 345 = .ok (.iload 5, 2) := by decide +kernel
theorem dL_law_347 : decode cL_law 347 = .ok (.if_icmp .eq 5, 3) := by decide +kernel
theorem dL_law_350 : decode cL_law 350 = .ok (.iconst 0, 1) := by decide +kernel
theorem dL_law_351 : decode cL_law 351 = .ok (.ireturn, 1) := by decide +kernel
theorem dL_law_352 : decode cL_law 352 = .ok (.iload 5, 2) := by decide +kernel
theorem dL_law_354 : decode cL_law 354 = .ok (.ifCond .ne 15, 3) := by decide +kernel
theorem dL_law_357 : decode cL_law 357 = .ok (.aload_n 3, 1) := by decide +kernel
theorem dL_law_358 : decode cL_law 358 = .ok (.iconst 0, 1) := by decide +kernel
theorem dL_law_359 : decode cL_law 359 = .ok (.laload, 1) := by decide +kernel
theorem dL_law_360 : decode cL_law 360 = .ok (.iload 6, 2) := by decide +kernel
theorem dL_law_362 : decode cL_law 362 = .ok (.i2l, 1) := by decide +kernel
theorem dL_law_363 : decode cL_law 363 = .ok (.lcmp, 1) := by decide +kernel
theorem dL_law_364 : decode cL_law 364 = .ok (.ifCond .eq 5, 3) := by decide +kernel
theorem dL_law_367 : decode cL_law 367 = .ok (.iconst 0, 1) := by decide +kernel
theorem dL_law_368 : decode cL_law 368 = .ok (.ireturn, 1) := by decide +kernel
theorem dL_law_369 : decode cL_law 369 = .ok (.goto 978, 3) := by decide +kernel
theorem dL_law_372 : decode cL_law 372 = .ok (.aload_n 1, 1) := by decide +kernel
theorem dL_law_373 : decode cL_law 373 = .ok (.aload_n 0, 1) := by decide +kernel
theorem dL_law_374 : decode cL_law 374 = .ok (.iload 4, 2) := by decide +kernel
theorem dL_law_376 : decode cL_law 376 = .ok (.iconst 1, 1) := by decide +kernel
theorem dL_law_377 : decode cL_law 377 = .ok (.iadd, 1) := by decide +kernel
theorem dL_law_378 : decode cL_law 378 = .ok (.iaload, 1) := by decide +kernel
theorem dL_law_379 : decode cL_law 379 = .ok (.aload_n 0, 1) := by decide +kernel
theorem dL_law_380 : decode cL_law 380 = .ok (.iload 4, 2) := by decide +kernel
theorem dL_law_382 : decode cL_law 382 = .ok (.iconst 2, 1) := by decide +kernel
theorem dL_law_383 : decode cL_law 383 = .ok (.iadd, 1) := by decide +kernel
theorem dL_law_384 : decode cL_law 384 = .ok (.iaload, 1) := by decide +kernel
theorem dL_law_385 : decode cL_law 385 = .ok (.aload_n 0, 1) := by decide +kernel
theorem dL_law_386 : decode cL_law 386 = .ok (.iload 4, 2) := by decide +kernel
theorem dL_law_388 : decode cL_law 388 = .ok (.iconst 3, 1) := by decide +kernel
theorem dL_law_389 : decode cL_law 389 = .ok (.iadd, 1) := by decide +kernel
theorem dL_law_390 : decode cL_law 390 = .ok (.iaload, 1) := by decide +kernel
theorem dL_law_391 : decode cL_law 391 = .ok (.aload_n 0, 1) := by decide +kernel
theorem dL_law_392 : decode cL_law 392 = .ok (.iload 4, 2) := by decide +kernel
theorem dL_law_394 : decode cL_law 394 = .ok (.iconst 4, 1) := by decide +kernel
theorem dL_law_395 : decode cL_law 395 = .ok (.iadd, 1) := by decide +kernel
theorem dL_law_396 : decode cL_law 396 = .ok (.iaload, 1) := by decide +kernel
theorem dL_law_397 : decode cL_law 397 = .ok (.aload_n 0, 1) := by decide +kernel
theorem dL_law_398 : decode cL_law 398 = .ok (.iload 4, 2) := by decide +kernel
theorem dL_law_400 : decode cL_law 400 = .ok (.iconst 5, 1) := by decide +kernel
theorem dL_law_401 : decode cL_law 401 = .ok (.iadd, 1) := by decide +kernel
theorem dL_law_402 : decode cL_law 402 = .ok (.iaload, 1) := by decide +kernel
theorem dL_law_403 : decode cL_law 403 = .ok (.invokevirtual 82, 3) := by decide +kernel
theorem dL_law_406 : decode cL_law 406 = .ok (.aload_n 2, 1) := by decide +kernel
theorem dL_law_407 : decode cL_law 407 = .ok (.aload_n 0, 1) := by decide +kernel
theorem dL_law_408 : decode cL_law 408 = .ok (.iload 4, 2) := by decide +kernel
theorem dL_law_410 : decode cL_law 410 = .ok (.iconst 1, 1) := by decide +kernel
theorem dL_law_411 : decode cL_law 411 = .ok (.iadd, 1) := by decide +kernel
theorem dL_law_412 : decode cL_law 412 = .ok (.iaload, 1) := by decide +kernel
theorem dL_law_413 : decode cL_law 413 = .ok (.aload_n 0, 1) := by decide +kernel
theorem dL_law_414 : decode cL_law 414 = .ok (.iload 4, 2) := by decide +kernel
theorem dL_law_416 : decode cL_law 416 = .ok (.iconst 2, 1) := by decide +kernel
theorem dL_law_417 : decode cL_law 417 = .ok (.iadd, 1) := by decide +kernel
theorem dL_law_418 : decode cL_law 418 = .ok (.iaload, 1) := by decide +kernel
theorem dL_law_419 : decode cL_law 419 = .ok (.aload_n 0, 1) := by decide +kernel
theorem dL_law_420 : decode cL_law 420 = .ok (.iload 4, 2) := by decide +kernel
theorem dL_law_422 : decode cL_law 422 = .ok (.iconst 3, 1) := by decide +kernel
theorem dL_law_423 : decode cL_law 423 = .ok (.iadd, 1) := by decide +kernel
theorem dL_law_424 : decode cL_law 424 = .ok (.iaload, 1) := by decide +kernel
theorem dL_law_425 : decode cL_law 425 = .ok (.aload_n 0, 1) := by decide +kernel
theorem dL_law_426 : decode cL_law 426 = .ok (.iload 4, 2) := by decide +kernel
theorem dL_law_428 : decode cL_law 428 = .ok (.iconst 4, 1) := by decide +kernel
theorem dL_law_429 : decode cL_law 429 = .ok (.iadd, 1) := by decide +kernel
theorem dL_law_430 : decode cL_law 430 = .ok (.iaload, 1) := by decide +kernel
theorem dL_law_431 : decode cL_law 431 = .ok (.aload_n 0, 1) := by decide +kernel
theorem dL_law_432 : decode cL_law 432 = .ok (.iload 4, 2) := by decide +kernel
theorem dL_law_434 : decode cL_law 434 = .ok (.iconst 5, 1) := by decide +kernel
theorem dL_law_435 : decode cL_law 435 = .ok (.iadd, 1) := by decide +kernel
theorem dL_law_436 : decode cL_law 436 = .ok (.iaload, 1) := by decide +kernel
theorem dL_law_437 : decode cL_law 437 = .ok (.invokevirtual 86, 3) := by decide +kernel
theorem dL_law_440 : decode cL_law 440 = .ok (.if_icmp .eq 907, 3) := by decide +kernel
theorem dL_law_443 : decode cL_law 443 = .ok (.iconst 0, 1) := by decide +kernel
theorem dL_law_444 : decode cL_law 444 = .ok (.ireturn, 1) := by decide +kernel
theorem dL_law_445 : decode cL_law 445 = .ok (.aload_n 1, 1) := by decide +kernel
theorem dL_law_446 : decode cL_law 446 = .ok (.aload_n 0, 1) := by decide +kernel
theorem dL_law_447 : decode cL_law 447 = .ok (.iload 4, 2) := by decide +kernel
theorem dL_law_449 : decode cL_law 449 = .ok (.iconst 1, 1) := by decide +kernel
theorem dL_law_450 : decode cL_law 450 = .ok (.iadd, 1) := by decide +kernel
theorem dL_law_451 : decode cL_law 451 = .ok (.iaload, 1) := by decide +kernel
theorem dL_law_452 : decode cL_law 452 = .ok (.aload_n 0, 1) := by decide +kernel
theorem dL_law_453 : decode cL_law 453 = .ok (.iload 4, 2) := by decide +kernel
theorem dL_law_455 : decode cL_law 455 = .ok (.iconst 2, 1) := by decide +kernel
theorem dL_law_456 : decode cL_law 456 = .ok (.iadd, 1) := by decide +kernel
theorem dL_law_457 : decode cL_law 457 = .ok (.iaload, 1) := by decide +kernel
theorem dL_law_458 : decode cL_law 458 = .ok (.aload_n 3, 1) := by decide +kernel
theorem dL_law_459 : decode cL_law 459 = .ok (.invokestatic 87, 3) := by decide +kernel
theorem dL_law_462 : decode cL_law 462 = .ok (.istore 5, 2) := by decide +kernel
theorem dL_law_464 : decode cL_law 464 = .ok (.aload_n 2, 1) := by decide +kernel
theorem dL_law_465 : decode cL_law 465 = .ok (.aload_n 0, 1) := by decide +kernel
theorem dL_law_466 : decode cL_law 466 = .ok (.iload 4, 2) := by decide +kernel
theorem dL_law_468 : decode cL_law 468 = .ok (.iconst 1, 1) := by decide +kernel
theorem dL_law_469 : decode cL_law 469 = .ok (.iadd, 1) := by decide +kernel
theorem dL_law_470 : decode cL_law 470 = .ok (.iaload, 1) := by decide +kernel
theorem dL_law_471 : decode cL_law 471 = .ok (.aload_n 0, 1) := by decide +kernel
theorem dL_law_472 : decode cL_law 472 = .ok (.iload 4, 2) := by decide +kernel
theorem dL_law_474 : decode cL_law 474 = .ok (.iconst 2, 1) := by decide +kernel
theorem dL_law_475 : decode cL_law 475 = .ok (.iadd, 1) := by decide +kernel
theorem dL_law_476 : decode cL_law 476 = .ok (.iaload, 1) := by decide +kernel
theorem dL_law_477 : decode cL_law 477 = .ok (.invokevirtual 90, 3) := by decide +kernel
theorem dL_law_480 : decode cL_law 480 = .ok (.istore 6, 2) := by decide +kernel
theorem dL_law_482 : decode cL_law 482 = .ok (.aload_n 2, 1) := by decide +kernel
theorem dL_law_483 : decode cL_law 483 = .ok (.invokevirtual 74, 3) := by decide +kernel
theorem dL_law_486 : decode cL_law 486 = .ok (.iload 5, 2) := by decide +kernel
theorem dL_law_488 : decode cL_law 488 = .ok (.if_icmp .eq 5, 3) := by decide +kernel
theorem dL_law_491 : decode cL_law 491 = .ok (.iconst 0, 1) := by decide +kernel
theorem dL_law_492 : decode cL_law 492 = .ok (.ireturn, 1) := by decide +kernel
theorem dL_law_493 : decode cL_law 493 = .ok (.iload 5, 2) := by decide +kernel
theorem dL_law_495 : decode cL_law 495 = .ok (.ifCond .ne 15, 3) := by decide +kernel
theorem dL_law_498 : decode cL_law 498 = .ok (.aload_n 3, 1) := by decide +kernel
theorem dL_law_499 : decode cL_law 499 = .ok (.iconst 0, 1) := by decide +kernel
theorem dL_law_500 : decode cL_law 500 = .ok (.laload, 1) := by decide +kernel
theorem dL_law_501 : decode cL_law 501 = .ok (.iload 6, 2) := by decide +kernel
theorem dL_law_503 : decode cL_law 503 = .ok (.i2l, 1) := by decide +kernel
theorem dL_law_504 : decode cL_law 504 = .ok (.lcmp, 1) := by decide +kernel
theorem dL_law_505 : decode cL_law 505 = .ok (.ifCond .eq 5, 3) := by decide +kernel
theorem dL_law_508 : decode cL_law 508 = .ok (.iconst 0, 1) := by decide +kernel
theorem dL_law_509 : decode cL_law 509 = .ok (.ireturn, 1) := by decide +kernel
theorem dL_law_510 : decode cL_law 510 = .ok (.goto 837, 3) := by decide +kernel
theorem dL_law_513 : decode cL_law 513 = .ok (.aload_n 1, 1) := by decide +kernel
theorem dL_law_514 : decode cL_law 514 = .ok (.invokevirtual 91, 3) := by decide +kernel
theorem dL_law_517 : decode cL_law 517 = .ok (.aload_n 2, 1) := by decide +kernel
theorem dL_law_518 : decode cL_law 518 = .ok (.invokevirtual 94, 3) := by decide +kernel
theorem dL_law_521 : decode cL_law 521 = .ok (.if_icmp .eq 826, 3) := by decide +kernel
theorem dL_law_524 : decode cL_law 524 = .ok (.iconst 0, 1) := by decide +kernel
theorem dL_law_525 : decode cL_law 525 = .ok (.ireturn, 1) := by decide +kernel
theorem dL_law_526 : decode cL_law 526 = .ok (.aload_n 1, 1) := by decide +kernel
theorem dL_law_527 : decode cL_law 527 = .ok (.aload_n 0, 1) := by decide +kernel
theorem dL_law_528 : decode cL_law 528 = .ok (.iload 4, 2) := by decide +kernel
theorem dL_law_530 : decode cL_law 530 = .ok (.iconst 1, 1) := by decide +kernel
theorem dL_law_531 : decode cL_law 531 = .ok (.iadd, 1) := by decide +kernel
theorem dL_law_532 : decode cL_law 532 = .ok (.iaload, 1) := by decide +kernel
theorem dL_law_533 : decode cL_law 533 = .ok (.aload_n 0, 1) := by decide +kernel
theorem dL_law_534 : decode cL_law 534 = .ok (.iload 4, 2) := by decide +kernel
theorem dL_law_536 : decode cL_law 536 = .ok (.iconst 2, 1) := by decide +kernel
theorem dL_law_537 : decode cL_law 537 = .ok (.iadd, 1) := by decide +kernel
theorem dL_law_538 : decode cL_law 538 = .ok (.iaload, 1) := by decide +kernel
theorem dL_law_539 : decode cL_law 539 = .ok (.aload_n 3, 1) := by decide +kernel
theorem dL_law_540 : decode cL_law 540 = .ok (.invokestatic 95, 3) := by decide +kernel
theorem dL_law_543 : decode cL_law 543 = .ok (.istore 5, 2) := by decide +kernel
theorem dL_law_545 : decode cL_law 545 = .ok (.aload_n 2, 1) := by decide +kernel
theorem dL_law_546 : decode cL_law 546 = .ok (.aload_n 0, 1) := by decide +kernel
theorem dL_law_547 : decode cL_law 547 = .ok (.iload 4, 2) := by decide +kernel
theorem dL_law_549 : decode cL_law 549 = .ok (.iconst 1, 1) := by decide +kernel
theorem dL_law_550 : decode cL_law 550 = .ok (.iadd, 1) := by decide +kernel
theorem dL_law_551 : decode cL_law 551 = .ok (.iaload, 1) := by decide +kernel
theorem dL_law_552 : decode cL_law 552 = .ok (.aload_n 0, 1) := by decide +kernel
theorem dL_law_553 : decode cL_law 553 = .ok (.iload 4, 2) := by decide +kernel
theorem dL_law_555 : decode cL_law 555 = .ok (.iconst 2, 1) := by decide +kernel
theorem dL_law_556 : decode cL_law 556 = .ok (.iadd, 1) := by decide +kernel
theorem dL_law_557 : decode cL_law 557 = .ok (.iaload, 1) := by decide +kernel
theorem dL_law_558 : decode cL_law 558 = .ok (.invokevirtual 97, 3) := by decide +kernel
theorem dL_law_561 : decode cL_law 561 = .ok (.istore 6, 2) := by decide +kernel
theorem dL_law_563 : decode cL_law 563 = .ok (.aload_n 2, 1) := by decide +kernel
theorem dL_law_564 : decode cL_law 564 = .ok (.invokevirtual 74, 3) := by decide +kernel
theorem dL_law_567 : decode cL_law 567 = .ok (.iload 5, 2) := by decide +kernel
theorem dL_law_569 : decode cL_law 569 = .ok (.if_icmp .eq 5, 3) := by decide +kernel
theorem dL_law_572 : decode cL_law 572 = .ok (.iconst 0, 1) := by decide +kernel
theorem dL_law_573 : decode cL_law 573 = .ok (.ireturn, 1) := by decide +kernel
theorem dL_law_574 : decode cL_law 574 = .ok (.iload 5, 2) := by decide +kernel
theorem dL_law_576 : decode cL_law 576 = .ok (.ifCond .ne 15, 3) := by decide +kernel
theorem dL_law_579 : decode cL_law 579 = .ok (.aload_n 3, 1) := by decide +kernel
theorem dL_law_580 : decode cL_law 580 = .ok (.iconst 0, 1) := by decide +kernel
theorem dL_law_581 : decode cL_law 581 = .ok (.laload, 1) := by decide +kernel
theorem dL_law_582 : decode cL_law 582 = .ok (.iload 6, 2) := by decide +kernel
theorem dL_law_584 : decode cL_law 584 = .ok (.i2l, 1) := by decide +kernel
theorem dL_law_585 : decode cL_law 585 = .ok (.lcmp, 1) := by decide +kernel
theorem dL_law_586 : decode cL_law 586 = .ok (.ifCond .eq 5, 3) := by decide +kernel
theorem dL_law_589 : decode cL_law 589 = .ok (.iconst 0, 1) := by decide +kernel
theorem dL_law_590 : decode cL_law 590 = .ok (.ireturn, 1) := by decide +kernel
theorem dL_law_591 : decode cL_law 591 = .ok (.goto 756, 3) := by decide +kernel
theorem dL_law_594 : decode cL_law 594 = .ok (.aload_n 1, 1) := by decide +kernel
theorem dL_law_595 : decode cL_law 595 = .ok (.aload_n 0, 1) := by decide +kernel
theorem dL_law_596 : decode cL_law 596 = .ok (.iload 4, 2) := by decide +kernel
theorem dL_law_598 : decode cL_law 598 = .ok (.iconst 1, 1) := by decide +kernel
theorem dL_law_599 : decode cL_law 599 = .ok (.iadd, 1) := by decide +kernel
theorem dL_law_600 : decode cL_law 600 = .ok (.iaload, 1) := by decide +kernel
theorem dL_law_601 : decode cL_law 601 = .ok (.aload_n 0, 1) := by decide +kernel
theorem dL_law_602 : decode cL_law 602 = .ok (.iload 4, 2) := by decide +kernel
theorem dL_law_604 : decode cL_law 604 = .ok (.iconst 2, 1) := by decide +kernel
theorem dL_law_605 : decode cL_law 605 = .ok (.iadd, 1) := by decide +kernel
theorem dL_law_606 : decode cL_law 606 = .ok (.iaload, 1) := by decide +kernel
theorem dL_law_607 : decode cL_law 607 = .ok (.aload_n 0, 1) := by decide +kernel
theorem dL_law_608 : decode cL_law 608 = .ok (.iload 4, 2) := by decide +kernel
theorem dL_law_610 : decode cL_law 610 = .ok (.iconst 3, 1) := by decide +kernel
theorem dL_law_611 : decode cL_law 611 = .ok (.iadd, 1) := by decide +kernel
theorem dL_law_612 : decode cL_law 612 = .ok (.iaload, 1) := by decide +kernel
theorem dL_law_613 : decode cL_law 613 = .ok (.aload_n 3, 1) := by decide +kernel
theorem dL_law_614 : decode cL_law 614 = .ok (.invokestatic 98, 3) := by decide +kernel
theorem dL_law_617 : decode cL_law 617 = .ok (.istore 5, 2) := by decide +kernel
theorem dL_law_619 : decode cL_law 619 = .ok (.aload_n 2, 1) := by decide +kernel
theorem dL_law_620 : decode cL_law 620 = .ok (.aload_n 0, 1) := by decide +kernel
theorem dL_law_621 : decode cL_law 621 = .ok (.iload 4, 2) := by decide +kernel
theorem dL_law_623 : decode cL_law 623 = .ok (.iconst 1, 1) := by decide +kernel
theorem dL_law_624 : decode cL_law 624 = .ok (.iadd, 1) := by decide +kernel
theorem dL_law_625 : decode cL_law 625 = .ok (.iaload, 1) := by decide +kernel
theorem dL_law_626 : decode cL_law 626 = .ok (.aload_n 0, 1) := by decide +kernel
theorem dL_law_627 : decode cL_law 627 = .ok (.iload 4, 2) := by decide +kernel
theorem dL_law_629 : decode cL_law 629 = .ok (.iconst 2, 1) := by decide +kernel
theorem dL_law_630 : decode cL_law 630 = .ok (.iadd, 1) := by decide +kernel
theorem dL_law_631 : decode cL_law 631 = .ok (.iaload, 1) := by decide +kernel
theorem dL_law_632 : decode cL_law 632 = .ok (.aload_n 0, 1) := by decide +kernel
theorem dL_law_633 : decode cL_law 633 = .ok (.iload 4, 2) := by decide +kernel
theorem dL_law_635 : decode cL_law 635 = .ok (.iconst 3, 1) := by decide +kernel
theorem dL_law_636 : decode cL_law 636 = .ok (.iadd, 1) := by decide +kernel
theorem dL_law_637 : decode cL_law 637 = .ok (.iaload, 1) := by decide +kernel
theorem dL_law_638 : decode cL_law 638 = .ok (.invokevirtual 100, 3) := by decide +kernel
theorem dL_law_641 : decode cL_law 641 = .ok (.istore 6, 2) := by decide +kernel
theorem dL_law_643 : decode cL_law 643 = .ok (.aload_n 2, 1) := by decide +kernel
theorem dL_law_644 : decode cL_law 644 = .ok (.invokevirtual 74, 3) := by decide +kernel
theorem dL_law_647 : decode cL_law 647 = .ok (.iload 5, 2) := by decide +kernel
theorem dL_law_649 : decode cL_law 649 = .ok (.if_icmp .eq 5, 3) := by decide +kernel
theorem dL_law_652 : decode cL_law 652 = .ok (.iconst 0, 1) := by decide +kernel
theorem dL_law_653 : decode cL_law 653 = .ok (.ireturn, 1) := by decide +kernel
theorem dL_law_654 : decode cL_law 654 = .ok (.iload 5, 2) := by decide +kernel
theorem dL_law_656 : decode cL_law 656 = .ok (.ifCond .ne 15, 3) := by decide +kernel
theorem dL_law_659 : decode cL_law 659 = .ok (.aload_n 3, 1) := by decide +kernel
theorem dL_law_660 : decode cL_law 660 = .ok (.iconst 0, 1) := by decide +kernel
theorem dL_law_661 : decode cL_law 661 = .ok (.laload, 1) := by decide +kernel
end
section
theorem dL_law_662 : decode cL_law 662 = .ok (.iload 6, 2) := by decide +kernel
theorem dL_law_664 : decode cL_law 664 = .ok (.i2l, 1) := by decide +kernel
theorem dL_law_665 : decode cL_law 665 = .ok (.lcmp, 1) := by decide +kernel
theorem dL_law_666 : decode cL_law 666 = .ok (.ifCond .eq 5, 3) := by decide +kernel
theorem dL_law_669 : decode cL_law 669 = .ok (.iconst 0, 1) := by decide +kernel
theorem dL_law_670 : decode cL_law 670 = .ok (.ireturn, 1) := by decide +kernel
theorem dL_law_671 : decode cL_law 671 = .ok (.goto 676, 3) := by decide +kernel
theorem dL_law_674 : decode cL_law 674 = .ok (.aload_n 1, 1) := by decide +kernel
theorem dL_law_675 : decode cL_law 675 = .ok (.aload_n 0, 1) := by decide +kernel
theorem dL_law_676 : decode cL_law 676 = .ok (.iload 4, 2) := by decide +kernel
theorem dL_law_678 : decode cL_law 678 = .ok (.iconst 1, 1) := by decide +kernel
theorem dL_law_679 : decode cL_law 679 = .ok (.iadd, 1) := by decide +kernel
theorem dL_law_680 : decode cL_law 680 = .ok (.iaload, 1) := by decide +kernel
theorem dL_law_681 : decode cL_law 681 = .ok (.aload_n 0, 1) := by decide +kernel
theorem dL_law_682 : decode cL_law 682 = .ok (.iload 4, 2) := by decide +kernel
theorem dL_law_684 : decode cL_law 684 = .ok (.iconst 2, 1) := by decide +kernel
theorem dL_law_685 : decode cL_law 685 = .ok (.iadd, 1) := by decide +kernel
theorem dL_law_686 : decode cL_law 686 = .ok (.iaload, 1) := by decide +kernel
theorem dL_law_687 : decode cL_law 687 = .ok (.aload_n 0, 1) := by decide +kernel
theorem dL_law_688 : decode cL_law 688 = .ok (.iload 4, 2) := by decide +kernel
theorem dL_law_690 : decode cL_law 690 = .ok (.iconst 3, 1) := by decide +kernel
theorem dL_law_691 : decode cL_law 691 = .ok (.iadd, 1) := by decide +kernel
theorem dL_law_692 : decode cL_law 692 = .ok (.iaload, 1) := by decide +kernel
theorem dL_law_693 : decode cL_law 693 = .ok (.aload_n 3, 1) := by decide +kernel
theorem dL_law_694 : decode cL_law 694 = .ok (.invokestatic 101, 3) := by decide +kernel
theorem dL_law_697 : decode cL_law 697 = .ok (.istore 5, 2) := by decide +kernel
theorem dL_law_699 : decode cL_law 699 = .ok (.aload_n 2, 1) := by decide +kernel
theorem dL_law_700 : decode cL_law 700 = .ok (.aload_n 0, 1) := by decide +kernel
theorem dL_law_701 : decode cL_law 701 = .ok (.iload 4, 2) := by decide +kernel
theorem dL_law_703 : decode cL_law 703 = .ok (.iconst 1, 1) := by decide +kernel
theorem dL_law_704 : decode cL_law 704 = .ok (.iadd, 1) := by decide +kernel
theorem dL_law_705 : decode cL_law 705 = .ok (.iaload, 1) := by decide +kernel
theorem dL_law_706 : decode cL_law 706 = .ok (.aload_n 0, 1) := by decide +kernel
theorem dL_law_707 : decode cL_law 707 = .ok (.iload 4, 2) := by decide +kernel
theorem dL_law_709 : decode cL_law 709 = .ok (.iconst 2, 1) := by decide +kernel
theorem dL_law_710 : decode cL_law 710 = .ok (.iadd, 1) := by decide +kernel
theorem dL_law_711 : decode cL_law 711 = .ok (.iaload, 1) := by decide +kernel
theorem dL_law_712 : decode cL_law 712 = .ok (.aload_n 0, 1) := by decide +kernel
theorem dL_law_713 : decode cL_law 713 = .ok (.iload 4, 2) := by decide +kernel
theorem dL_law_715 : decode cL_law 715 = .ok (.iconst 3, 1) := by decide +kernel
theorem dL_law_716 : decode cL_law 716 = .ok (.iadd, 1) := by decide +kernel
theorem dL_law_717 : decode cL_law 717 = .ok (.iaload, 1) := by decide +kernel
theorem dL_law_718 : decode cL_law 718 = .ok (.invokevirtual 103, 3) := by decide +kernel
theorem dL_law_721 : decode cL_law 721 = .ok (.istore 6, 2) := by decide +kernel
theorem dL_law_723 : decode cL_law 723 = .ok (.aload_n 2, 1) := by decide +kernel
theorem dL_law_724 : decode cL_law 724 = .ok (.invokevirtual 74, 3) := by decide +kernel
theorem dL_law_727 : decode cL_law 727 = .ok (.iload 5, 2) := by decide +kernel
theorem dL_law_729 : decode cL_law 729 = .ok (.if_icmp .eq 5, 3) := by decide +kernel
theorem dL_law_732 : decode cL_law 732 = .ok (.iconst 0, 1) := by decide +kernel
theorem dL_law_733 : decode cL_law 733 = .ok (.ireturn, 1) := by decide +kernel
theorem dL_law_734 : decode cL_law 734 = .ok (.iload 5, 2) := by decide +kernel
theorem dL_law_736 : decode cL_law 736 = .ok (.ifCond .ne 15, 3) := by decide +kernel
theorem dL_law_739 : decode cL_law 739 = .ok (.aload_n 3, 1) := by decide +kernel
theorem dL_law_740 : decode cL_law 740 = .ok (.iconst 0, 1) := by decide +kernel
theorem dL_law_741 : decode cL_law 741 = .ok (.laload, 1) := by decide +kernel
theorem dL_law_742 : decode cL_law 742 = .ok (.iload 6, 2) := by decide +kernel
theorem dL_law_744 : decode cL_law 744 = .ok (.i2l, 1) := by decide +kernel
theorem dL_law_745 : decode cL_law 745 = .ok (.lcmp, 1) := by decide +kernel
theorem dL_law_746 : decode cL_law 746 = .ok (.ifCond .eq 5, 3) := by decide +kernel
theorem dL_law_749 : decode cL_law 749 = .ok (.iconst 0, 1) := by decide +kernel
theorem dL_law_750 : decode cL_law 750 = .ok (.ireturn, 1) := by decide +kernel
theorem dL_law_751 : decode cL_law 751 = .ok (.goto 596, 3) := by decide +kernel
theorem dL_law_754 : decode cL_law 754 = .ok (.aload_n 1, 1) := by decide +kernel
theorem dL_law_755 : decode cL_law 755 = .ok (.aload_n 0, 1) := by decide +kernel
theorem dL_law_756 : decode cL_law 756 = .ok (.iload 4, 2) := by decide +kernel
theorem dL_law_758 : decode cL_law 758 = .ok (.iconst 1, 1) := by decide +kernel
theorem dL_law_759 : decode cL_law 759 = .ok (.iadd, 1) := by decide +kernel
theorem dL_law_760 : decode cL_law 760 = .ok (.iaload, 1) := by decide +kernel
theorem dL_law_761 : decode cL_law 761 = .ok (.aload_n 0, 1) := by decide +kernel
theorem dL_law_762 : decode cL_law 762 = .ok (.iload 4, 2) := by decide +kernel
theorem dL_law_764 : decode cL_law 764 = .ok (.iconst 2, 1) := by decide +kernel
theorem dL_law_765 : decode cL_law 765 = .ok (.iadd, 1) := by decide +kernel
theorem dL_law_766 : decode cL_law 766 = .ok (.iaload, 1) := by decide +kernel
theorem dL_law_767 : decode cL_law 767 = .ok (.aload_n 3, 1) := by decide +kernel
theorem dL_law_768 : decode cL_law 768 = .ok (.invokestatic 104, 3) := by decide +kernel
theorem dL_law_771 : decode cL_law 771 = .ok (.istore 5, 2) := by decide +kernel
theorem dL_law_773 : decode cL_law 773 = .ok (.aload_n 2, 1) := by decide +kernel
theorem dL_law_774 : decode cL_law 774 = .ok (.aload_n 0, 1) := by decide +kernel
theorem dL_law_775 : decode cL_law 775 = .ok (.iload 4, 2) := by decide +kernel
theorem dL_law_777 : decode cL_law 777 = .ok (.iconst 1, 1) := by decide +kernel
theorem dL_law_778 : decode cL_law 778 = .ok (.iadd, 1) := by decide +kernel
theorem dL_law_779 : decode cL_law 779 = .ok (.iaload, 1) := by decide +kernel
theorem dL_law_780 : decode cL_law 780 = .ok (.aload_n 0, 1) := by decide +kernel
theorem dL_law_781 : decode cL_law 781 = .ok (.iload 4, 2) := by decide +kernel
theorem dL_law_783 : decode cL_law 783 = .ok (.iconst 2, 1) := by decide +kernel
theorem dL_law_784 : decode cL_law 784 = .ok (.iadd, 1) := by decide +kernel
theorem dL_law_785 : decode cL_law 785 = .ok (.iaload, 1) := by decide +kernel
theorem dL_law_786 : decode cL_law 786 = .ok (.invokevirtual 106, 3) := by decide +kernel
theorem dL_law_789 : decode cL_law 789 = .ok (.istore 6, 2) := by decide +kernel
theorem dL_law_791 : decode cL_law 791 = .ok (.aload_n 2, 1) := by decide +kernel
theorem dL_law_792 : decode cL_law 792 = .ok (.invokevirtual 74, 3) := by decide +kernel
theorem dL_law_795 : decode cL_law 795 = .ok (.iload 5, 2) := by decide +kernel
theorem dL_law_797 : decode cL_law 797 = .ok (.if_icmp .eq 5, 3) := by decide +kernel
theorem dL_law_800 : decode cL_law 800 = .ok (.iconst 0, 1) := by decide +kernel
theorem dL_law_801 : decode cL_law 801 = .ok (.ireturn, 1) := by decide +kernel
theorem dL_law_802 : decode cL_law 802 = .ok (.iload 5, 2) := by decide +kernel
theorem dL_law_804 : decode cL_law 804 = .ok (.ifCond .ne 15, 3) := by decide +kernel
theorem dL_law_807 : decode cL_law 807 = .ok (.aload_n 3, 1) := by decide +kernel
theorem dL_law_808 : decode cL_law 808 = .ok (.iconst 0, 1) := by decide +kernel
theorem dL_law_809 : decode cL_law 809 = .ok (.laload, 1) := by decide +kernel
theorem dL_law_810 : decode cL_law 810 = .ok (.iload 6, 2) := by decide +kernel
theorem dL_law_812 : decode cL_law 812 = .ok (.i2l, 1) := by decide +kernel
theorem dL_law_813 : decode cL_law 813 = .ok (.lcmp, 1) := by decide +kernel
theorem dL_law_814 : decode cL_law 814 = .ok (.ifCond .eq 5, 3) := by decide +kernel
theorem dL_law_817 : decode cL_law 817 = .ok (.iconst 0, 1) := by decide +kernel
theorem dL_law_818 : decode cL_law 818 = .ok (.ireturn, 1) := by decide +kernel
theorem dL_law_819 : decode cL_law 819 = .ok (.goto 528, 3) := by decide +kernel
theorem dL_law_822 : decode cL_law 822 = .ok (.aload_n 1, 1) := by decide +kernel
theorem dL_law_823 : decode cL_law 823 = .ok (.aload_n 0, 1) := by decide +kernel
theorem dL_law_824 : decode cL_law 824 = .ok (.iload 4, 2) := by decide +kernel
theorem dL_law_826 : decode cL_law 826 = .ok (.iconst 1, 1) := by decide +kernel
theorem dL_law_827 : decode cL_law 827 = .ok (.iadd, 1) := by decide +kernel
theorem dL_law_828 : decode cL_law 828 = .ok (.iaload, 1) := by decide +kernel
theorem dL_law_829 : decode cL_law 829 = .ok (.aload_n 0, 1) := by decide +kernel
theorem dL_law_830 : decode cL_law 830 = .ok (.iload 4, 2) := by decide +kernel
theorem dL_law_832 : decode cL_law 832 = .ok (.iconst 2, 1) := by decide +kernel
theorem dL_law_833 : decode cL_law 833 = .ok (.iadd, 1) := by decide +kernel
theorem dL_law_834 : decode cL_law 834 = .ok (.iaload, 1) := by decide +kernel
theorem dL_law_835 : decode cL_law 835 = .ok (.aload_n 0, 1) := by decide +kernel
theorem dL_law_836 : decode cL_law 836 = .ok (.iload 4, 2) := by decide +kernel
theorem dL_law_838 : decode cL_law 838 = .ok (.iconst 3, 1) := by decide +kernel
theorem dL_law_839 : decode cL_law 839 = .ok (.iadd, 1) := by decide +kernel
theorem dL_law_840 : decode cL_law 840 = .ok (.iaload, 1) := by decide +kernel
theorem dL_law_841 : decode cL_law 841 = .ok (.aload_n 3, 1) := by decide +kernel
theorem dL_law_842 : decode cL_law 842 = .ok (.invokestatic 107, 3) := by decide +kernel
theorem dL_law_845 : decode cL_law 845 = .ok (.istore 5, 2) := by decide +kernel
theorem dL_law_847 : decode cL_law 847 = .ok (.aload_n 2, 1) := by decide +kernel
theorem dL_law_848 : decode cL_law 848 = .ok (.aload_n 0, 1) := by decide +kernel
theorem dL_law_849 : decode cL_law 849 = .ok (.iload 4, 2) := by decide +kernel
theorem dL_law_851 : decode cL_law 851 = .ok (.iconst 1, 1) := by decide +kernel
theorem dL_law_852 : decode cL_law 852 = .ok (.iadd, 1) := by decide +kernel
theorem dL_law_853 : decode cL_law 853 = .ok (.iaload, 1) := by decide +kernel
theorem dL_law_854 : decode cL_law 854 = .ok (.aload_n 0, 1) := by decide +kernel
theorem dL_law_855 : decode cL_law 855 = .ok (.iload 4, 2) := by decide +kernel
theorem dL_law_857 : decode cL_law 857 = .ok (.iconst 2, 1) := by decide +kernel
theorem dL_law_858 : decode cL_law 858 = .ok (.iadd, 1) := by decide +kernel
theorem dL_law_859 : decode cL_law 859 = .ok (.iaload, 1) := by decide +kernel
theorem dL_law_860 : decode cL_law 860 = .ok (.aload_n 0, 1) := by decide +kernel
theorem dL_law_861 : decode cL_law 861 = .ok (.iload 4, 2) := by decide +kernel
theorem dL_law_863 : decode cL_law 863 = .ok (.iconst 3, 1) := by decide +kernel
theorem dL_law_864 : decode cL_law 864 = .ok (.iadd, 1) := by decide +kernel
theorem dL_law_865 : decode cL_law 865 = .ok (.iaload, 1) := by decide +kernel
theorem dL_law_866 : decode cL_law 866 = .ok (.invokevirtual 109, 3) := by decide +kernel
theorem dL_law_869 : decode cL_law 869 = .ok (.istore 6, 2) := by decide +kernel
theorem dL_law_871 : decode cL_law 871 = .ok (.aload_n 2, 1) := by decide +kernel
theorem dL_law_872 : decode cL_law 872 = .ok (.invokevirtual 74, 3) := by decide +kernel
theorem dL_law_875 : decode cL_law 875 = .ok (.iload 5, 2) := by decide +kernel
theorem dL_law_877 : decode cL_law 877 = .ok (.if_icmp .eq 5, 3) := by decide +kernel
theorem dL_law_880 : decode cL_law 880 = .ok (.iconst 0, 1) := by decide +kernel
theorem dL_law_881 : decode cL_law 881 = .ok (.ireturn, 1) := by decide +kernel
theorem dL_law_882 : decode cL_law 882 = .ok (.iload 5, 2) := by decide +kernel
theorem dL_law_884 : decode cL_law 884 = .ok (.ifCond .ne 15, 3) := by decide +kernel
theorem dL_law_887 : decode cL_law 887 = .ok (.aload_n 3, 1) := by decide +kernel
theorem dL_law_888 : decode cL_law 888 = .ok (.iconst 0, 1) := by decide +kernel
theorem dL_law_889 : decode cL_law 889 = .ok (.laload, 1) := by decide +kernel
theorem dL_law_890 : decode cL_law 890 = .ok (.iload 6, 2) := by decide +kernel
theorem dL_law_892 : decode cL_law 892 = .ok (.i2l, 1) := by decide +kernel
theorem dL_law_893 : decode cL_law 893 = .ok (.lcmp, 1) := by decide +kernel
theorem dL_law_894 : decode cL_law 894 = .ok (.ifCond .eq 5, 3) := by decide +kernel
theorem dL_law_897 : decode cL_law 897 = .ok (.iconst 0, 1) := by decide +kernel
theorem dL_law_898 : decode cL_law 898 = .ok (.ireturn, 1) := by decide +kernel
theorem dL_law_899 : decode cL_law 899 = .ok (.goto 448, 3) := by decide +kernel
theorem dL_law_902 : decode cL_law 902 = .ok (.aload_n 1, 1) := by decide +kernel
theorem dL_law_903 : decode cL_law 903 = .ok (.aload_n 0, 1) := by decide +kernel
theorem dL_law_904 : decode cL_law 904 = .ok (.iload 4, 2) := by decide +kernel
theorem dL_law_906 : decode cL_law 906 = .ok (.iconst 1, 1) := by decide +kernel
theorem dL_law_907 : decode cL_law 907 = .ok (.iadd, 1) := by decide +kernel
theorem dL_law_908 : decode cL_law 908 = .ok (.iaload, 1) := by decide +kernel
theorem dL_law_909 : decode cL_law 909 = .ok (.aload_n 0, 1) := by decide +kernel
theorem dL_law_910 : decode cL_law 910 = .ok (.iload 4, 2) := by decide +kernel
theorem dL_law_912 : decode cL_law 912 = .ok (.iconst 2, 1) := by decide +kernel
theorem dL_law_913 : decode cL_law 913 = .ok (.iadd, 1) := by decide +kernel
theorem dL_law_914 : decode cL_law 914 = .ok (.iaload, 1) := by decide +kernel
theorem dL_law_915 : decode cL_law 915 = .ok (.aload_n 0, 1) := by decide +kernel
theorem dL_law_916 : decode cL_law 916 = .ok (.iload 4, 2) := by decide +kernel
theorem dL_law_918 : decode cL_law 918 = .ok (.iconst 3, 1) := by decide +kernel
theorem dL_law_919 : decode cL_law 919 = .ok (.iadd, 1) := by decide +kernel
theorem dL_law_920 : decode cL_law 920 = .ok (.iaload, 1) := by decide +kernel
theorem dL_law_921 : decode cL_law 921 = .ok (.aload_n 3, 1) := by decide +kernel
theorem dL_law_922 : decode cL_law 922 = .ok (.invokestatic 110, 3) := by decide +kernel
theorem dL_law_925 : decode cL_law 925 = .ok (.istore 5, 2) := by decide +kernel
theorem dL_law_927 : decode cL_law 927 = .ok (.aload_n 2, 1) := by decide +kernel
theorem dL_law_928 : decode cL_law 928 = .ok (.aload_n 0, 1) := by decide +kernel
theorem dL_law_929 : decode cL_law 929 = .ok (.iload 4, 2) := by decide +kernel
theorem dL_law_931 : decode cL_law 931 = .ok (.iconst 1, 1) := by decide +kernel
theorem dL_law_932 : decode cL_law 932 = .ok (.iadd, 1) := by decide +kernel
theorem dL_law_933 : decode cL_law 933 = .ok (.iaload, 1) := by decide +kernel
theorem dL_law_934 : decode cL_law 934 = .ok (.aload_n 0, 1) := by decide +kernel
theorem dL_law_935 : decode cL_law 935 = .ok (.iload 4, 2) := by decide +kernel
theorem dL_law_937 : decode cL_law 937 = .ok (.iconst 2, 1) := by decide +kernel
theorem dL_law_938 : decode cL_law 938 = .ok (.iadd, 1) := by decide +kernel
theorem dL_law_939 : decode cL_law 939 = .ok (.iaload, 1) := by decide +kernel
theorem dL_law_940 : decode cL_law 940 = .ok (.aload_n 0, 1) := by decide +kernel
theorem dL_law_941 : decode cL_law 941 = .ok (.iload 4, 2) := by decide +kernel
theorem dL_law_943 : decode cL_law 943 = .ok (.iconst 3, 1) := by decide +kernel
theorem dL_law_944 : decode cL_law 944 = .ok (.iadd, 1) := by decide +kernel
theorem dL_law_945 : decode cL_law 945 = .ok (.iaload, 1) := by decide +kernel
theorem dL_law_946 : decode cL_law 946 = .ok (.invokevirtual 112, 3) := by decide +kernel
theorem dL_law_949 : decode cL_law 949 = .ok (.istore 6, 2) := by decide +kernel
theorem dL_law_951 : decode cL_law 951 = .ok (.aload_n 2, 1) := by decide +kernel
theorem dL_law_952 : decode cL_law 952 = .ok (.invokevirtual 74, 3) := by decide +kernel
theorem dL_law_955 : decode cL_law 955 = .ok (.iload 5, 2) := by decide +kernel
theorem dL_law_957 : decode cL_law 957 = .ok (.if_icmp .eq 5, 3) := by decide +kernel
theorem dL_law_960 : decode cL_law 960 = .ok (.iconst 0, 1) := by decide +kernel
theorem dL_law_961 : decode cL_law 961 = .ok (.ireturn, 1) := by decide +kernel
theorem dL_law_962 : decode cL_law 962 = .ok (.iload 5, 2) := by decide +kernel
theorem dL_law_964 : decode cL_law 964 = .ok (.ifCond .ne 15, 3) := by decide +kernel
theorem dL_law_967 : decode cL_law 967 = .ok (.aload_n 3, 1) := by decide +kernel
theorem dL_law_968 : decode cL_law 968 = .ok (.iconst 0, 1) := by decide +kernel
theorem dL_law_969 : decode cL_law 969 = .ok (.laload, 1) := by decide +kernel
theorem dL_law_970 : decode cL_law 970 = .ok (.iload 6, 2) := by decide +kernel
theorem dL_law_972 : decode cL_law 972 = .ok (.i2l, 1) := by decide +kernel
theorem dL_law_973 : decode cL_law 973 = .ok (.lcmp, 1) := by decide +kernel
theorem dL_law_974 : decode cL_law 974 = .ok (.ifCond .eq 5, 3) := by decide +kernel
theorem dL_law_977 : decode cL_law 977 = .ok (.iconst 0, 1) := by decide +kernel
theorem dL_law_978 : decode cL_law 978 = .ok (.ireturn, 1) := by decide +kernel
theorem dL_law_979 : decode cL_law 979 = .ok (.goto 368, 3) := by decide +kernel
theorem dL_law_982 : decode cL_law 982 = .ok (.aload_n 1, 1) := by decide +kernel
theorem dL_law_983 : decode cL_law 983 = .ok (.aload_n 0, 1) := by decide +kernel
theorem dL_law_984 : decode cL_law 984 = .ok (.iload 4, 2) := by decide +kernel
theorem dL_law_986 : decode cL_law 986 = .ok (.iconst 1, 1) := by decide +kernel
theorem dL_law_987 : decode cL_law 987 = .ok (.iadd, 1) := by decide +kernel
theorem dL_law_988 : decode cL_law 988 = .ok (.iaload, 1) := by decide +kernel
theorem dL_law_989 : decode cL_law 989 = .ok (.aload_n 0, 1) := by decide +kernel
theorem dL_law_990 : decode cL_law 990 = .ok (.iload 4, 2) := by decide +kernel
theorem dL_law_992 : decode cL_law 992 = .ok (.iconst 2, 1) := by decide +kernel
theorem dL_law_993 : decode cL_law 993 = .ok (.iadd, 1) := by decide +kernel
theorem dL_law_994 : decode cL_law 994 = .ok (.iaload, 1) := by decide +kernel
theorem dL_law_995 : decode cL_law 995 = .ok (.aload_n 3, 1) := by decide +kernel
theorem dL_law_996 : decode cL_law 996 = .ok (.invokestatic 113, 3) := by decide +kernel
theorem dL_law_999 : decode cL_law 999 = .ok (.istore 5, 2) := by decide +kernel
theorem dL_law_1001 : decode cL_law 1001 = .ok (.aload_n 2, 1) := by decide +kernel
theorem dL_law_1002 : decode cL_law 1002 = .ok (.aload_n 0, 1) := by decide +kernel
theorem dL_law_1003 : decode cL_law 1003 = .ok (.iload 4, 2) := by decide +kernel
theorem dL_law_1005 : decode cL_law 1005 = .ok (.iconst 1, 1) := by decide +kernel
theorem dL_law_1006 : decode cL_law 1006 = .ok (.iadd, 1) := by decide +kernel
theorem dL_law_1007 : decode cL_law 1007 = .ok (.iaload, 1) := by decide +kernel
theorem dL_law_1008 : decode cL_law 1008 = .ok (.aload_n 0, 1) := by decide +kernel
theorem dL_law_1009 : decode cL_law 1009 = .ok (.iload 4, 2) := by decide +kernel
theorem dL_law_1011 : decode cL_law 1011 = .ok (.iconst 2, 1) := by decide +kernel
theorem dL_law_1012 : decode cL_law 1012 = .ok (.iadd, 1) := by decide +kernel
theorem dL_law_1013 : decode cL_law 1013 = .ok (.iaload, 1) := by decide +kernel
theorem dL_law_1014 : decode cL_law 1014 = .ok (.invokevirtual 115, 3) := by decide +kernel
theorem dL_law_1017 : decode cL_law 1017 = .ok (.istore 6, 2) := by decide +kernel
theorem dL_law_1019 : decode cL_law 1019 = .ok (.aload_n 2, 1) := by decide +kernel
theorem dL_law_1020 : decode cL_law 1020 = .ok (.invokevirtual 74, 3) := by decide +kernel
theorem dL_law_1023 : decode cL_law 1023 = .ok (.iload 5, 2) := by decide +kernel
theorem dL_law_1025 : decode cL_law 1025 = .ok (.if_icmp .eq 5, 3) := by decide +kernel
theorem dL_law_1028 : decode cL_law 1028 = .ok (.iconst 0, 1) := by decide +kernel
theorem dL_law_1029 : decode cL_law 1029 = .ok (.ireturn, 1) := by decide +kernel
theorem dL_law_1030 : decode cL_law 1030 = .ok (.iload 5, 2) := by decide +kernel
theorem dL_law_1032 : decode cL_law 1032 = .ok (.ifCond .ne 15, 3) := by decide +kernel
theorem dL_law_1035 : decode cL_law 1035 = .ok (.aload_n 3, 1) := by decide +kernel
theorem dL_law_1036 : decode cL_law 1036 = .ok (.iconst 0, 1) := by decide +kernel
theorem dL_law_1037 : decode cL_law 1037 = .ok (.laload, 1) := by decide +kernel
theorem dL_law_1038 : decode cL_law 1038 = .ok (.iload 6, 2) := by decide +kernel
theorem dL_law_1040 : decode cL_law 1040 = .ok (.i2l, 1) := by decide +kernel
theorem dL_law_1041 : decode cL_law 1041 = .ok (.lcmp, 1) := by decide +kernel
theorem dL_law_1042 : decode cL_law 1042 = .ok (.ifCond .eq 5, 3) := by decide +kernel
theorem dL_law_1045 : decode cL_law 1045 = .ok (.iconst 0, 1) := by decide +kernel
theorem dL_law_1046 : decode cL_law 1046 = .ok (.ireturn, 1) := by decide +kernel
theorem dL_law_1047 : decode cL_law 1047 = .ok (.goto 300, 3) := by decide +kernel
theorem dL_law_1050 : decode cL_law 1050 = .ok (.aload_n 1, 1) := by decide +kernel
theorem dL_law_1051 : decode cL_law 1051 = .ok (.aload_n 0, 1) := by decide +kernel
theorem dL_law_1052 : decode cL_law 1052 = .ok (.iload 4, 2) := by decide +kernel
theorem dL_law_1054 : decode cL_law 1054 = .ok (.iconst 1, 1) := by decide +kernel
theorem dL_law_1055 : decode cL_law 1055 = .ok (.iadd, 1) := by decide +kernel
theorem dL_law_1056 : decode cL_law 1056 = .ok (.iaload, 1) := by decide +kernel
theorem dL_law_1057 : decode cL_law 1057 = .ok (.aload_n 0, 1) := by decide +kernel
theorem dL_law_1058 : decode cL_law 1058 = .ok (.iload 4, 2) := by decide +kernel
theorem dL_law_1060 : decode cL_law 1060 = .ok (.iconst 2, 1) := by decide +kernel
theorem dL_law_1061 : decode cL_law 1061 = .ok (.iadd, 1) := by decide +kernel
theorem dL_law_1062 : decode cL_law 1062 = .ok (.iaload, 1) := by decide +kernel
theorem dL_law_1063 : decode cL_law 1063 = .ok (.aload_n 3, 1) := by decide +kernel
theorem dL_law_1064 : decode cL_law 1064 = .ok (.invokestatic 116, 3) := by decide +kernel
theorem dL_law_1067 : decode cL_law 1067 = .ok (.istore 5, 2) := by decide +kernel
theorem dL_law_1069 : decode cL_law 1069 = .ok (.aload_n 2, 1) := by decide +kernel
theorem dL_law_1070 : decode cL_law 1070 = .ok (.aload_n 0, 1) := by decide +kernel
theorem dL_law_1071 : decode cL_law 1071 = .ok (.iload 4, 2) := by decide +kernel
theorem dL_law_1073 : decode cL_law 1073 = .ok (.iconst 1, 1) := by decide +kernel
theorem dL_law_1074 : decode cL_law 1074 = .ok (.iadd, 1) := by decide +kernel
theorem dL_law_1075 : decode cL_law 1075 = .ok (.iaload, 1) := by decide +kernel
theorem dL_law_1076 : decode cL_law 1076 = .ok (.aload_n 0, 1) := by decide +kernel
theorem dL_law_1077 : decode cL_law 1077 = .ok (.iload 4, 2) := by decide +kernel
theorem dL_law_1079 : decode cL_law 1079 = .ok (.iconst 2, 1) := by decide +kernel
theorem dL_law_1080 : decode cL_law 1080 = .ok (.iadd, 1) := by decide +kernel
theorem dL_law_1081 : decode cL_law 1081 = .ok (.iaload, 1) := by decide +kernel
theorem dL_law_1082 : decode cL_law 1082 = .ok (.invokevirtual 118, 3) := by decide +kernel
theorem dL_law_1085 : decode cL_law 1085 = .ok (.istore 6, 2) := by decide +kernel
theorem dL_law_1087 : decode cL_law 1087 = .ok (.aload_n 2, 1) := by decide +kernel
theorem dL_law_1088 : decode cL_law 1088 = .ok (.invokevirtual 74, 3) := by decide +kernel
theorem dL_law_1091 : decode cL_law 1091 = .ok (.iload 5, 2) := by decide +kernel
theorem dL_law_1093 : decode cL_law 1093 = .ok (.if_icmp .eq 5, 3) := by decide +kernel
theorem dL_law_1096 : decode cL_law 1096 = .ok (.iconst 0, 1) := by decide +kernel
theorem dL_law_1097 : decode cL_law 1097 = .ok (.ireturn, 1) := by decide +kernel
theorem dL_law_1098 : decode cL_law 1098 = .ok (.iload 5, 2) := by decide +kernel
theorem dL_law_1100 : decode cL_law 1100 = .ok (.ifCond .ne 15, 3) := by decide +kernel
theorem dL_law_1103 : decode cL_law 1103 = .ok (.aload_n 3, 1) := by decide +kernel
theorem dL_law_1104 : decode cL_law 1104 = .ok (.iconst 0, 1) := by decide +kernel
theorem dL_law_1105 : decode cL_law 1105 = .ok (.laload, 1) := by decide +kernel
theorem dL_law_1106 : decode cL_law 1106 = .ok (.iload 6, 2) := by decide +kernel
theorem dL_law_1108 : decode cL_law 1108 = .ok (.i2l, 1) := by decide +kernel
theorem dL_law_1109 : decode cL_law 1109 = .ok (.lcmp, 1) := by decide +kernel
theorem dL_law_1110 : decode cL_law 1110 = .ok (.ifCond .eq 5, 3) := by decide +kernel
theorem dL_law_1113 : decode cL_law 1113 = .ok (.iconst 0, 1) := by decide +kernel
theorem dL_law_1114 : decode cL_law 1114 = .ok (.ireturn, 1) := by decide +kernel
theorem dL_law_1115 : decode cL_law 1115 = .ok (.goto 232, 3) := by decide +kernel
theorem dL_law_1118 : decode cL_law 1118 = .ok (.aload_n 1, 1) := by decide +kernel
theorem dL_law_1119 : decode cL_law 1119 = .ok (.aload_n 0, 1) := by decide +kernel
theorem dL_law_1120 : decode cL_law 1120 = .ok (.iload 4, 2) := by decide +kernel
theorem dL_law_1122 : decode cL_law 1122 = .ok (.iconst 1, 1) := by decide +kernel
theorem dL_law_1123 : decode cL_law 1123 = .ok (.iadd, 1) := by decide +kernel
theorem dL_law_1124 : decode cL_law 1124 = .ok (.iaload, 1) := by decide +kernel
theorem dL_law_1125 : decode cL_law 1125 = .ok (.aload_n 0, 1) := by decide +kernel
theorem dL_law_1126 : decode cL_law 1126 = .ok (.iload 4, 2) := by decide +kernel
theorem dL_law_1128 : decode cL_law 1128 = .ok (.iconst 2, 1) := by decide +kernel
theorem dL_law_1129 : decode cL_law 1129 = .ok (.iadd, 1) := by decide +kernel
theorem dL_law_1130 : decode cL_law 1130 = .ok (.iaload, 1) := by decide +kernel
theorem dL_law_1131 : decode cL_law 1131 = .ok (.aload_n 3, 1) := by decide +kernel
theorem dL_law_1132 : decode cL_law 1132 = .ok (.invokestatic 119, 3) := by decide +kernel
theorem dL_law_1135 : decode cL_law 1135 = .ok (.istore 5, 2) := by decide +kernel
theorem dL_law_1137 : decode cL_law 1137 = .ok (.aload_n 2, 1) := by decide +kernel
theorem dL_law_1138 : decode cL_law 1138 = .ok (.aload_n 0, 1) := by decide +kernel
theorem dL_law_1139 : decode cL_law 1139 = .ok (.iload 4, 2) := by decide +kernel
theorem dL_law_1141 : decode cL_law 1141 = .ok (.iconst 1, 1) := by decide +kernel
theorem dL_law_1142 : decode cL_law 1142 = .ok (.iadd, 1) := by decide +kernel
theorem dL_law_1143 : decode cL_law 1143 = .ok (.iaload, 1) := by decide +kernel
theorem dL_law_1144 : decode cL_law 1144 = .ok (.aload_n 0, 1) := by decide +kernel
theorem dL_law_1145 : decode cL_law 1145 = .ok (.iload 4, 2) := by decide +kernel
theorem dL_law_1147 : decode cL_law 1147 = .ok (.iconst 2, 1) := by decide +kernel
theorem dL_law_1148 : decode cL_law 1148 = .ok (.iadd, 1) := by decide +kernel
theorem dL_law_1149 : decode cL_law 1149 = .ok (.iaload, 1) := by decide +kernel
theorem dL_law_1150 : decode cL_law 1150 = .ok (.invokevirtual 121, 3) := by decide +kernel
theorem dL_law_1153 : decode cL_law 1153 = .ok (.istore 6, 2) := by decide +kernel
theorem dL_law_1155 : decode cL_law 1155 = .ok (.aload_n 2, 1) := by decide +kernel
theorem dL_law_1156 : decode cL_law 1156 = .ok (.invokevirtual 74, 3) := by decide +kernel
theorem dL_law_1159 : decode cL_law 1159 = .ok (.iload 5, 2) := by decide +kernel
theorem dL_law_1161 : decode cL_law 1161 = .ok (.if_icmp .eq 5, 3) := by decide +kernel
theorem dL_law_1164 : decode cL_law 1164 = .ok (.iconst 0, 1) := by decide +kernel
theorem dL_law_1165 : decode cL_law 1165 = .ok (.ireturn, 1) := by decide +kernel
theorem dL_law_1166 : decode cL_law 1166 = .ok (.iload 5, 2) := by decide +kernel
theorem dL_law_1168 : decode cL_law 1168 = .ok (.ifCond .ne 15, 3) := by decide +kernel
theorem dL_law_1171 : decode cL_law 1171 = .ok (.aload_n 3, 1) := by decide +kernel
theorem dL_law_1172 : decode cL_law 1172 = .ok (.iconst 0, 1) := by decide +kernel
theorem dL_law_1173 : decode cL_law 1173 = .ok (.laload, 1) := by decide +kernel
theorem dL_law_1174 : decode cL_law 1174 = .ok (.iload 6, 2) := by decide +kernel
theorem dL_law_1176 : decode cL_law 1176 = .ok (.i2l, 1) := by decide +kernel
theorem dL_law_1177 : decode cL_law 1177 = .ok (.lcmp, 1) := by decide +kernel
theorem dL_law_1178 : decode cL_law 1178 = .ok (.ifCond .eq 5, 3) := by decide +kernel
theorem dL_law_1181 : decode cL_law 1181 = .ok (.iconst 0, 1) := by decide +kernel
theorem dL_law_1182 : decode cL_law 1182 = .ok (.ireturn, 1) := by decide +kernel
theorem dL_law_1183 : decode cL_law 1183 = .ok (.goto 164, 3) := by decide +kernel
theorem dL_law_1186 : decode cL_law 1186 = .ok (.aload_n 1, 1) := by decide +kernel
theorem dL_law_1187 : decode cL_law 1187 = .ok (.aload_n 0, 1) := by decide +kernel
theorem dL_law_1188 : decode cL_law 1188 = .ok (.iload 4, 2) := by decide +kernel
theorem dL_law_1190 : decode cL_law 1190 = .ok (.iconst 1, 1) := by decide +kernel
theorem dL_law_1191 : decode cL_law 1191 = .ok (.iadd, 1) := by decide +kernel
theorem dL_law_1192 : decode cL_law 1192 = .ok (.iaload, 1) := by decide +kernel
theorem dL_law_1193 : decode cL_law 1193 = .ok (.aload_n 0, 1) := by decide +kernel
theorem dL_law_1194 : decode cL_law 1194 = .ok (.iload 4, 2) := by decide +kernel
theorem dL_law_1196 : decode cL_law 1196 = .ok (.iconst 2, 1) := by decide +kernel
theorem dL_law_1197 : decode cL_law 1197 = .ok (.iadd, 1) := by decide +kernel
theorem dL_law_1198 : decode cL_law 1198 = .ok (.iaload, 1) := by decide +kernel
theorem dL_law_1199 : decode cL_law 1199 = .ok (.invokevirtual 122, 3) := by decide +kernel
theorem dL_law_1202 : decode cL_law 1202 = .ok (.aload_n 2, 1) := by decide +kernel
theorem dL_law_1203 : decode cL_law 1203 = .ok (.aload_n 0, 1) := by decide +kernel
theorem dL_law_1204 : decode cL_law 1204 = .ok (.iload 4, 2) := by decide +kernel
theorem dL_law_1206 : decode cL_law 1206 = .ok (.iconst 1, 1) := by decide +kernel
theorem dL_law_1207 : decode cL_law 1207 = .ok (.iadd, 1) := by decide +kernel
theorem dL_law_1208 : decode cL_law 1208 = .ok (.iaload, 1) := by decide +kernel
theorem dL_law_1209 : decode cL_law 1209 = .ok (.aload_n 0, 1) := by decide +kernel
theorem dL_law_1210 : decode cL_law 1210 = .ok (.iload 4, 2) := by decide +kernel
theorem dL_law_1212 : decode cL_law 1212 = .ok (.iconst 2, 1) := by decide +kernel
theorem dL_law_1213 : decode cL_law 1213 = .ok (.iadd, 1) := by decide +kernel
theorem dL_law_1214 : decode cL_law 1214 = .ok (.iaload, 1) := by decide +kernel
theorem dL_law_1215 : decode cL_law 1215 = .ok (.invokevirtual 125, 3) := by decide +kernel
theorem dL_law_1218 : decode cL_law 1218 = .ok (.if_icmp .eq 129, 3) := by decide +kernel
theorem dL_law_1221 : decode cL_law 1221 = .ok (.iconst 0, 1) := by decide +kernel
theorem dL_law_1222 : decode cL_law 1222 = .ok (.ireturn, 1) := by decide +kernel
theorem dL_law_1223 : decode cL_law 1223 = .ok (.aload_n 1, 1) := by decide +kernel
theorem dL_law_1224 : decode cL_law 1224 = .ok (.aload_n 0, 1) := by decide +kernel
theorem dL_law_1225 : decode cL_law 1225 = .ok (.iload 4, 2) := by decide +kernel
theorem dL_law_1227 : decode cL_law 1227 = .ok (.iconst 1, 1) := by decide +kernel
theorem dL_law_1228 : decode cL_law 1228 = .ok (.iadd, 1) := by decide +kernel
theorem dL_law_1229 : decode cL_law 1229 = .ok (.iaload, 1) := by decide +kernel
theorem dL_law_1230 : decode cL_law 1230 = .ok (.aload_n 0, 1) := by decide +kernel
theorem dL_law_1231 : decode cL_law 1231 = .ok (.iload 4, 2) := by decide +kernel
theorem dL_law_1233 : decode cL_law 1233 = .ok (.iconst 2, 1) := by decide +kernel
theorem dL_law_1234 : decode cL_law 1234 = .ok (.iadd, 1) := by decide +kernel
theorem dL_law_1235 : decode cL_law 1235 = .ok (.iaload, 1) := by decide +kernel
theorem dL_law_1236 : decode cL_law 1236 = .ok (.aload_n 3, 1) := by decide +kernel
theorem dL_law_1237 : decode cL_law 1237 = .ok (.invokestatic 126, 3) := by decide +kernel
theorem dL_law_1240 : decode cL_law 1240 = .ok (.istore 5, 2) := by decide +kernel
theorem dL_law_1242 : decode cL_law 1242 = .ok (.aload_n 2, 1) := by decide +kernel
theorem dL_law_1243 : decode cL_law 1243 = .ok (.aload_n 0, 1) := by decide +kernel
theorem dL_law_1244 : decode cL_law 1244 = .ok (.iload 4, 2) := by decide +kernel
theorem dL_law_1246 : decode cL_law 1246 = .ok (.iconst 1, 1) := by decide +kernel
theorem dL_law_1247 : decode cL_law 1247 = .ok (.iadd, 1) := by decide +kernel
theorem dL_law_1248 : decode cL_law 1248 = .ok (.iaload, 1) := by decide +kernel
theorem dL_law_1249 : decode cL_law 1249 = .ok (.aload_n 0, 1) := by decide +kernel
theorem dL_law_1250 : decode cL_law 1250 = .ok (.iload 4, 2) := by decide +kernel
theorem dL_law_1252 : decode cL_law 1252 = .ok (.iconst 2, 1) := by decide +kernel
theorem dL_law_1253 : decode cL_law 1253 = .ok (.iadd, 1) := by decide +kernel
theorem dL_law_1254 : decode cL_law 1254 = .ok (.iaload, 1) := by decide +kernel
theorem dL_law_1255 : decode cL_law 1255 = .ok (.invokevirtual 128, 3) := by decide +kernel
theorem dL_law_1258 : decode cL_law 1258 = .ok (.istore 6, 2) := by decide +kernel
theorem dL_law_1260 : decode cL_law 1260 = .ok (.aload_n 2, 1) := by decide +kernel
theorem dL_law_1261 : decode cL_law 1261 = .ok (.invokevirtual 74, 3) := by decide +kernel
theorem dL_law_1264 : decode cL_law 1264 = .ok (.iload 5, 2) := by decide +kernel
theorem dL_law_1266 : decode cL_law 1266 = .ok (.if_icmp .eq 5, 3) := by decide +kernel
theorem dL_law_1269 : decode cL_law 1269 = .ok (.iconst 0, 1) := by decide +kernel
theorem dL_law_1270 : decode cL_law 1270 = .ok (.ireturn, 1) := by decide +kernel
theorem dL_law_1271 : decode cL_law 1271 = .ok (.iload 5, 2) := by decide +kernel
theorem dL_law_1273 : decode cL_law 1273 = .ok (.ifCond .ne 15, 3) := by decide +kernel
theorem dL_law_1276 : decode cL_law 1276 = .ok (.aload_n 3, 1) := by decide +kernel
theorem dL_law_1277 : decode cL_law 1277 = .ok (.iconst 0, 1) := by decide +kernel
theorem dL_law_1278 : decode cL_law 1278 = .ok (.laload, 1) := by decide +kernel
theorem dL_law_1279 : decode cL_law 1279 = .ok (.iload 6, 2) := by decide +kernel
theorem dL_law_1281 : decode cL_law 1281 = .ok (.i2l, 1) := by decide +kernel
theorem dL_law_1282 : decode cL_law 1282 = .ok (.lcmp, 1) := by decide +kernel
theorem dL_law_1283 : decode cL_law 1283 = .ok (.ifCond .eq 5, 3) := by decide +kernel
theorem dL_law_1286 : decode cL_law 1286 = .ok (.iconst 0, 1) := by decide +kernel
theorem dL_law_1287 : decode cL_law 1287 = .ok (.ireturn, 1) := by decide +kernel
theorem dL_law_1288 : decode cL_law 1288 = .ok (.goto 59, 3) := by decide +kernel
theorem dL_law_1291 : decode cL_law 1291 = .ok (.aload_n 1, 1) := by decide +kernel
theorem dL_law_1292 : decode cL_law 1292 = .ok (.aload_n 0, 1) := by decide +kernel
theorem dL_law_1293 : decode cL_law 1293 = .ok (.iload 4, 2) := by decide +kernel
theorem dL_law_1295 : decode cL_law 1295 = .ok (.iconst 1, 1) := by decide +kernel
theorem dL_law_1296 : decode cL_law 1296 = .ok (.iadd, 1) := by decide +kernel
theorem dL_law_1297 : decode cL_law 1297 = .ok (.iaload, 1) := by decide +kernel
theorem dL_law_1298 : decode cL_law 1298 = .ok (.aload_n 3, 1) := by decide +kernel
theorem dL_law_1299 : decode cL_law 1299 = .ok (.invokestatic 129, 3) := by decide +kernel
theorem dL_law_1302 : decode cL_law 1302 = .ok (.istore 5, 2) := by decide +kernel
theorem dL_law_1304 : decode cL_law 1304 = .ok (.aload_n 2, 1) := by decide +kernel
theorem dL_law_1305 : decode cL_law 1305 = .ok (.aload_n 0, 1) := by decide +kernel
theorem dL_law_1306 : decode cL_law 1306 = .ok (.iload 4, 2) := by decide +kernel
theorem dL_law_1308 : decode cL_law 1308 = .ok (.iconst 1, 1) := by decide +kernel
theorem dL_law_1309 : decode cL_law 1309 = .ok (.iadd, 1) := by decide +kernel
theorem dL_law_1310 : decode cL_law 1310 = .ok (.iaload, 1) := by decide +kernel
theorem dL_law_1311 : decode cL_law 1311 = .ok (.invokevirtual 132, 3) := by decide +kernel
theorem dL_law_1314 : decode cL_law 1314 = .ok (.istore 6, 2) := by decide +kernel
theorem dL_law_1316 : decode cL_law 1316 = .ok (.aload_n 2, 1) := by decide +kernel
theorem dL_law_1317 : decode cL_law 1317 = .ok (.invokevirtual 74, 3) := by decide +kernel
theorem dL_law_1320 : decode cL_law 1320 = .ok (.iload 5, 2) := by decide +kernel
theorem dL_law_1322 : decode cL_law 1322 = .ok (.if_icmp .eq 5, 3) := by decide +kernel
theorem dL_law_1325 : decode cL_law 1325 = .ok (.iconst 0, 1) := by decide +kernel
theorem dL_law_1326 : decode cL_law 1326 = .ok (.ireturn, 1) := by decide +kernel
theorem dL_law_1327 : decode cL_law 1327 = .ok (.iload 5, 2) := by decide +kernel
theorem dL_law_1329 : decode cL_law 1329 = .ok (.ifCond .ne 15, 3) := by decide +kernel
theorem dL_law_1332 : decode cL_law 1332 = .ok (.aload_n 3, 1) := by decide +kernel
theorem dL_law_1333 : decode cL_law 1333 = .ok (.iconst 0, 1) := by decide +kernel
theorem dL_law_1334 : decode cL_law 1334 = .ok (.laload, 1) := by decide +kernel
theorem dL_law_1335 : decode cL_law 1335 = .ok (.iload 6, 2) := by decide +kernel
theorem dL_law_1337 : decode cL_law 1337 = .ok (.i2l, 1) := by decide +kernel
theorem dL_law_1338 : decode cL_law 1338 = .ok (.lcmp, 1) := by decide +kernel
theorem dL_law_1339 : decode cL_law 1339 = .ok (.ifCond .eq 5, 3) := by decide +kernel
theorem dL_law_1342 : decode cL_law 1342 = .ok (.iconst 0, 1) := by decide +kernel
theorem dL_law_1343 : decode cL_law 1343 = .ok (.ireturn, 1) := by decide +kernel
theorem dL_law_1344 : decode cL_law 1344 = .ok (.goto 3, 3) := by decide +kernel
theorem dL_law_1347 : decode cL_law 1347 = .ok (.iinc 4 6, 3) := by decide +kernel
theorem dL_law_1350 : decode cL_law 1350 = .ok (.goto (-1327), 3) := by decide +kernel
theorem dL_law_1353 : decode cL_law 1353 = .ok (.iconst 1, 1) := by decide +kernel
theorem dL_law_1354 : decode cL_law 1354 = .ok (.ireturn, 1) := by decide +kernel
end
section
theorem dX0_init_0 : decode cX0_init 0 = .ok (.aload_n 0, 1) := by decide +kernel
theorem dX0_init_1 : decode cX0_init 1 = .ok (.invokespecial 3, 3) := by decide +kernel
theorem dX0_init_4 : decode cX0_init 4 = .ok (.aload_n 0, 1) := by decide +kernel
theorem dX0_init_5 : decode cX0_init 5 = .ok (.bipush 40, 2) := by decide +kernel
theorem dX0_init_7 : decode cX0_init 7 = .ok (.newarray .int, 2) := by decide +kernel
theorem dX0_init_9 : decode cX0_init 9 = .ok (.putfield 11, 3) := by decide +kernel
theorem dX0_init_12 : decode cX0_init 12 = .ok (.aload_n 0, 1) := by decide +kernel
theorem dX0_init_13 : decode cX0_init 13 = .ok (.bipush 40, 2) := by decide +kernel
theorem dX0_init_15 : decode cX0_init 15 = .ok (.newarray .int, 2) := by decide +kernel
theorem dX0_init_17 : decode cX0_init 17 = .ok (.putfield 15, 3) := by decide +kernel
theorem dX0_init_20 : decode cX0_init 20 = .ok (.aload_n 0, 1) := by decide +kernel
theorem dX0_init_21 : decode cX0_init 21 = .ok (.iconst 0, 1) := by decide +kernel
theorem dX0_init_22 : decode cX0_init 22 = .ok (.putfield 18, 3) := by decide +kernel
theorem dX0_init_25 : decode cX0_init 25 = .ok (.return_, 1) := by decide +kernel
theorem dX0_has_0 : decode cX0_has 0 = .ok (.iload_n 1, 1) := by decide +kernel
theorem dX0_has_1 : decode cX0_has 1 = .ok (.ifCond .lt 15, 3) := by decide +kernel
theorem dX0_has_4 : decode cX0_has 4 = .ok (.iload_n 1, 1) := by decide +kernel
theorem dX0_has_5 : decode cX0_has 5 = .ok (.aload_n 0, 1) := by decide +kernel
theorem dX0_has_6 : decode cX0_has 6 = .ok (.getfield 18, 3) := by decide +kernel
theorem dX0_has_9 : decode cX0_has 9 = .ok (.if_icmp .ge 7, 3) := by decide +kernel
theorem dX0_has_12 : decode cX0_has 12 = .ok (.iconst 1, 1) := by decide +kernel
theorem dX0_has_13 : decode cX0_has 13 = .ok (.goto 4, 3) := by decide +kernel
theorem dX0_has_16 : decode cX0_has 16 = .ok (.iconst 0, 1) := by decide +kernel
theorem dX0_has_17 : decode cX0_has 17 = .ok (.ireturn, 1) := by decide +kernel
theorem dX0_add_0 : decode cX0_add 0 = .ok (.aload_n 0, 1) := by decide +kernel
theorem dX0_add_1 : decode cX0_add 1 = .ok (.getfield 18, 3) := by decide +kernel
theorem dX0_add_4 : decode cX0_add 4 = .ok (.bipush 40, 2) := by decide +kernel
theorem dX0_add_6 : decode cX0_add 6 = .ok (.if_icmp .ge 10, 3) := by decide +kernel
theorem dX0_add_9 : decode cX0_add 9 = .ok (.iload_n 1, 1) := by decide +kernel
theorem dX0_add_10 : decode cX0_add 10 = .ok (.invokestatic 22, 3) := by decide +kernel
theorem dX0_add_13 : decode cX0_add 13 = .ok (.ifCond .ne 5, 3) := by decide +kernel
theorem dX0_add_16 : decode cX0_add 16 = .ok (.iconst (-1), 1) := by decide +kernel
theorem dX0_add_17 : decode cX0_add 17 = .ok (.ireturn, 1) := by decide +kernel
theorem dX0_add_18 : decode cX0_add 18 = .ok (.aload_n 0, 1) := by decide +kernel
theorem dX0_add_19 : decode cX0_add 19 = .ok (.getfield 18, 3) := by decide +kernel
theorem dX0_add_22 : decode cX0_add 22 = .ok (.istore_n 3, 1) := by decide +kernel
theorem dX0_add_23 : decode cX0_add 23 = .ok (.aload_n 0, 1) := by decide +kernel
theorem dX0_add_24 : decode cX0_add 24 = .ok (.getfield 11, 3) := by decide +kernel
theorem dX0_add_27 : decode cX0_add 27 = .ok (.iload_n 3, 1) := by decide +kernel
theorem dX0_add_28 : decode cX0_add 28 = .ok (.iload_n 1, 1) := by decide +kernel
theorem dX0_add_29 : decode cX0_add 29 = .ok (.iastore, 1) := by decide +kernel
theorem dX0_add_30 : decode cX0_add 30 = .ok (.aload_n 0, 1) := by decide +kernel
theorem dX0_add_31 : decode cX0_add 31 = .ok (.getfield 15, 3) := by decide +kernel
theorem dX0_add_34 : decode cX0_add 34 = .ok (.iload_n 3, 1) := by decide +kernel
theorem dX0_add_35 : decode cX0_add 35 = .ok (.iload_n 2, 1) := by decide +kernel
theorem dX0_add_36 : decode cX0_add 36 = .ok (.iastore, 1) := by decide +kernel
theorem dX0_add_37 : decode cX0_add 37 = .ok (.aload_n 0, 1) := by decide +kernel
theorem dX0_add_38 : decode cX0_add 38 = .ok (.iload_n 3, 1) := by decide +kernel
theorem dX0_add_39 : decode cX0_add 39 = .ok (.iconst 1, 1) := by decide +kernel
theorem dX0_add_40 : decode cX0_add 40 = .ok (.iadd, 1) := by decide +kernel
theorem dX0_add_41 : decode cX0_add 41 = .ok (.putfield 18, 3) := by decide +kernel
theorem dX0_add_44 : decode cX0_add 44 = .ok (.iload_n 3, 1) := by decide +kernel
theorem dX0_add_45 : decode cX0_add 45 = .ok (.ireturn, 1) := by decide +kernel
theorem dX0_yearOf_0 : decode cX0_yearOf 0 = .ok (.aload_n 0, 1) := by decide +kernel
theorem dX0_yearOf_1 : decode cX0_yearOf 1 = .ok (.iload_n 1, 1) := by decide +kernel
theorem dX0_yearOf_2 : decode cX0_yearOf 2 = .ok (.invokevirtual 26, 3) := by decide +kernel
theorem dX0_yearOf_5 : decode cX0_yearOf 5 = .ok (.ifCond .eq 12, 3) := by decide +kernel
theorem dX0_yearOf_8 : decode cX0_yearOf 8 = .ok (.aload_n 0, 1) := by decide +kernel
theorem dX0_yearOf_9 : decode cX0_yearOf 9 = .ok (.getfield 11, 3) := by decide +kernel
theorem dX0_yearOf_12 : decode cX0_yearOf 12 = .ok (.iload_n 1, 1) := by decide +kernel
theorem dX0_yearOf_13 : decode cX0_yearOf 13 = .ok (.iaload, 1) := by decide +kernel
theorem dX0_yearOf_14 : decode cX0_yearOf 14 = .ok (.goto 4, 3) := by decide +kernel
theorem dX0_yearOf_17 : decode cX0_yearOf 17 = .ok (.iconst (-1), 1) := by decide +kernel
theorem dX0_yearOf_18 : decode cX0_yearOf 18 = .ok (.ireturn, 1) := by decide +kernel
theorem dX0_rowOf_0 : decode cX0_rowOf 0 = .ok (.aload_n 0, 1) := by decide +kernel
theorem dX0_rowOf_1 : decode cX0_rowOf 1 = .ok (.iload_n 1, 1) := by decide +kernel
theorem dX0_rowOf_2 : decode cX0_rowOf 2 = .ok (.invokevirtual 26, 3) := by decide +kernel
theorem dX0_rowOf_5 : decode cX0_rowOf 5 = .ok (.ifCond .eq 12, 3) := by decide +kernel
theorem dX0_rowOf_8 : decode cX0_rowOf 8 = .ok (.aload_n 0, 1) := by decide +kernel
theorem dX0_rowOf_9 : decode cX0_rowOf 9 = .ok (.getfield 15, 3) := by decide +kernel
theorem dX0_rowOf_12 : decode cX0_rowOf 12 = .ok (.iload_n 1, 1) := by decide +kernel
theorem dX0_rowOf_13 : decode cX0_rowOf 13 = .ok (.iaload, 1) := by decide +kernel
theorem dX0_rowOf_14 : decode cX0_rowOf 14 = .ok (.goto 4, 3) := by decide +kernel
theorem dX0_rowOf_17 : decode cX0_rowOf 17 = .ok (.iconst 0, 1) := by decide +kernel
theorem dX0_rowOf_18 : decode cX0_rowOf 18 = .ok (.ireturn, 1) := by decide +kernel
theorem dX0_changes_0 : decode cX0_changes 0 = .ok (.aload_n 0, 1) := by decide +kernel
theorem dX0_changes_1 : decode cX0_changes 1 = .ok (.iload_n 1, 1) := by decide +kernel
theorem dX0_changes_2 : decode cX0_changes 2 = .ok (.invokevirtual 29, 3) := by decide +kernel
theorem dX0_changes_5 : decode cX0_changes 5 = .ok (.aload_n 0, 1) := by decide +kernel
theorem dX0_changes_6 : decode cX0_changes 6 = .ok (.iload_n 2, 1) := by decide +kernel
theorem dX0_changes_7 : decode cX0_changes 7 = .ok (.invokevirtual 29, 3) := by decide +kernel
theorem dX0_changes_10 : decode cX0_changes 10 = .ok (.ixor, 1) := by decide +kernel
theorem dX0_changes_11 : decode cX0_changes 11 = .ok (.istore_n 3, 1) := by decide +kernel
theorem dX0_changes_12 : decode cX0_changes 12 = .ok (.iconst 0, 1) := by decide +kernel
theorem dX0_changes_13 : decode cX0_changes 13 = .ok (.istore 4, 2) := by decide +kernel
theorem dX0_changes_15 : decode cX0_changes 15 = .ok (.iconst 0, 1) := by decide +kernel
theorem dX0_changes_16 : decode cX0_changes 16 = .ok (.istore 5, 2) := by decide +kernel
theorem dX0_changes_18 : decode cX0_changes 18 = .ok (.iload 5, 2) := by decide +kernel
theorem dX0_changes_20 : decode cX0_changes 20 = .ok (.bipush 8, 2) := by decide +kernel
theorem dX0_changes_22 : decode cX0_changes 22 = .ok (.if_icmp .ge 24, 3) := by decide +kernel
theorem dX0_changes_25 : decode cX0_changes 25 = .ok (.iload_n 3, 1) := by decide +kernel
theorem dX0_changes_26 : decode cX0_changes 26 = .ok (.iload 5, 2) := by decide +kernel
theorem dX0_changes_28 : decode cX0_changes 28 = .ok (.iconst 4, 1) := by decide +kernel
theorem dX0_changes_29 : decode cX0_changes 29 = .ok (.imul, 1) := by decide +kernel
theorem dX0_changes_30 : decode cX0_changes 30 = .ok (.iushr, 1) := by decide +kernel
theorem dX0_changes_31 : decode cX0_changes 31 = .ok (.bipush 15, 2) := by decide +kernel
theorem dX0_changes_33 : decode cX0_changes 33 = .ok (.iand, 1) := by decide +kernel
theorem dX0_changes_34 : decode cX0_changes 34 = .ok (.ifCond .eq 6, 3) := by decide +kernel
theorem dX0_changes_37 : decode cX0_changes 37 = .ok (.iinc 4 1, 3) := by decide +kernel
theorem dX0_changes_40 : decode cX0_changes 40 = .ok (.iinc 5 1, 3) := by decide +kernel
theorem dX0_changes_43 : decode cX0_changes 43 = .ok (.goto (-25), 3) := by decide +kernel
theorem dX0_changes_46 : decode cX0_changes 46 = .ok (.iload 4, 2) := by decide +kernel
theorem dX0_changes_48 : decode cX0_changes 48 = .ok (.ireturn, 1) := by decide +kernel
theorem dX0_sourceOf_0 : decode cX0_sourceOf 0 = .ok (.iconst (-1), 1) := by decide +kernel
theorem dX0_sourceOf_1 : decode cX0_sourceOf 1 = .ok (.istore_n 2, 1) := by decide +kernel
theorem dX0_sourceOf_2 : decode cX0_sourceOf 2 = .ok (.iconst 4, 1) := by decide +kernel
theorem dX0_sourceOf_3 : decode cX0_sourceOf 3 = .ok (.istore_n 3, 1) := by decide +kernel
theorem dX0_sourceOf_4 : decode cX0_sourceOf 4 = .ok (.iconst 0, 1) := by decide +kernel
theorem dX0_sourceOf_5 : decode cX0_sourceOf 5 = .ok (.istore 4, 2) := by decide +kernel
theorem dX0_sourceOf_7 : decode cX0_sourceOf 7 = .ok (.iload 4, 2) := by decide +kernel
theorem dX0_sourceOf_9 : decode cX0_sourceOf 9 = .ok (.aload_n 0, 1) := by decide +kernel
theorem dX0_sourceOf_10 : decode cX0_sourceOf 10 = .ok (.getfield 18, 3) := by decide +kernel
theorem dX0_sourceOf_13 : decode cX0_sourceOf 13 = .ok (.if_icmp .ge 76, 3) := by decide +kernel
theorem dX0_sourceOf_16 : decode cX0_sourceOf 16 = .ok (.aload_n 0, 1) := by decide +kernel
theorem dX0_sourceOf_17 : decode cX0_sourceOf 17 = .ok (.iload_n 1, 1) := by decide +kernel
theorem dX0_sourceOf_18 : decode cX0_sourceOf 18 = .ok (.iload 4, 2) := by decide +kernel
theorem dX0_sourceOf_20 : decode cX0_sourceOf 20 = .ok (.invokevirtual 33, 3) := by decide +kernel
theorem dX0_sourceOf_23 : decode cX0_sourceOf 23 = .ok (.istore 5, 2) := by decide +kernel
theorem dX0_sourceOf_25 : decode cX0_sourceOf 25 = .ok (.iload 5, 2) := by decide +kernel
theorem dX0_sourceOf_27 : decode cX0_sourceOf 27 = .ok (.iload_n 3, 1) := by decide +kernel
theorem dX0_sourceOf_28 : decode cX0_sourceOf 28 = .ok (.if_icmp .lt 23, 3) := by decide +kernel
theorem dX0_sourceOf_31 : decode cX0_sourceOf 31 = .ok (.iload 5, 2) := by decide +kernel
theorem dX0_sourceOf_33 : decode cX0_sourceOf 33 = .ok (.iload_n 3, 1) := by decide +kernel
theorem dX0_sourceOf_34 : decode cX0_sourceOf 34 = .ok (.if_icmp .ne 21, 3) := by decide +kernel
theorem dX0_sourceOf_37 : decode cX0_sourceOf 37 = .ok (.aload_n 0, 1) := by decide +kernel
theorem dX0_sourceOf_38 : decode cX0_sourceOf 38 = .ok (.iload 4, 2) := by decide +kernel
theorem dX0_sourceOf_40 : decode cX0_sourceOf 40 = .ok (.invokevirtual 37, 3) := by decide +kernel
theorem dX0_sourceOf_43 : decode cX0_sourceOf 43 = .ok (.aload_n 0, 1) := by decide +kernel
theorem dX0_sourceOf_44 : decode cX0_sourceOf 44 = .ok (.iload_n 2, 1) := by decide +kernel
theorem dX0_sourceOf_45 : decode cX0_sourceOf 45 = .ok (.invokevirtual 37, 3) := by decide +kernel
theorem dX0_sourceOf_48 : decode cX0_sourceOf 48 = .ok (.if_icmp .le 7, 3) := by decide +kernel
theorem dX0_sourceOf_51 : decode cX0_sourceOf 51 = .ok (.iconst 1, 1) := by decide +kernel
theorem dX0_sourceOf_52 : decode cX0_sourceOf 52 = .ok (.goto 4, 3) := by decide +kernel
theorem dX0_sourceOf_55 : decode cX0_sourceOf 55 = .ok (.iconst 0, 1) := by decide +kernel
theorem dX0_sourceOf_56 : decode cX0_sourceOf 56 = .ok (.istore 6, 2) := by decide +kernel
theorem dX0_sourceOf_58 : decode cX0_sourceOf 58 = .ok (.aload_n 0, 1) := by decide +kernel
theorem dX0_sourceOf_59 : decode cX0_sourceOf 59 = .ok (.iload 4, 2) := by decide +kernel
theorem dX0_sourceOf_61 : decode cX0_sourceOf 61 = .ok (.invokevirtual 37, 3) := by decide +kernel
theorem dX0_sourceOf_64 : decode cX0_sourceOf 64 = .ok (.aload_n 0, 1) := by decide +kernel
theorem dX0_sourceOf_65 : decode cX0_sourceOf 65 = .ok (.iload_n 1, 1) := by decide +kernel
theorem dX0_sourceOf_66 : decode cX0_sourceOf 66 = .ok (.invokevirtual 37, 3) := by decide +kernel
theorem dX0_sourceOf_69 : decode cX0_sourceOf 69 = .ok (.if_icmp .ge 14, 3) := by decide +kernel
theorem dX0_sourceOf_72 : decode cX0_sourceOf 72 = .ok (.iload 6, 2) := by decide +kernel
theorem dX0_sourceOf_74 : decode cX0_sourceOf 74 = .ok (.ifCond .eq 9, 3) := by decide +kernel
theorem dX0_sourceOf_77 : decode cX0_sourceOf 77 = .ok (.iload 4, 2) := by decide +kernel
theorem dX0_sourceOf_79 : decode cX0_sourceOf 79 = .ok (.istore_n 2, 1) := by decide +kernel
theorem dX0_sourceOf_80 : decode cX0_sourceOf 80 = .ok (.iload 5, 2) := by decide +kernel
theorem dX0_sourceOf_82 : decode cX0_sourceOf 82 = .ok (.istore_n 3, 1) := by decide +kernel
theorem dX0_sourceOf_83 : decode cX0_sourceOf 83 = .ok (.iinc 4 1, 3) := by decide +kernel
theorem dX0_sourceOf_86 : decode cX0_sourceOf 86 = .ok (.goto (-79), 3) := by decide +kernel
theorem dX0_sourceOf_89 : decode cX0_sourceOf 89 = .ok (.iload_n 2, 1) := by decide +kernel
theorem dX0_sourceOf_90 : decode cX0_sourceOf 90 = .ok (.ireturn, 1) := by decide +kernel
theorem dX0_changesOf_0 : decode cX0_changesOf 0 = .ok (.aload_n 0, 1) := by decide +kernel
theorem dX0_changesOf_1 : decode cX0_changesOf 1 = .ok (.iload_n 1, 1) := by decide +kernel
theorem dX0_changesOf_2 : decode cX0_changesOf 2 = .ok (.invokevirtual 40, 3) := by decide +kernel
theorem dX0_changesOf_5 : decode cX0_changesOf 5 = .ok (.istore_n 2, 1) := by decide +kernel
theorem dX0_changesOf_6 : decode cX0_changesOf 6 = .ok (.iload_n 2, 1) := by decide +kernel
theorem dX0_changesOf_7 : decode cX0_changesOf 7 = .ok (.iconst (-1), 1) := by decide +kernel
theorem dX0_changesOf_8 : decode cX0_changesOf 8 = .ok (.if_icmp .ne 7, 3) := by decide +kernel
theorem dX0_changesOf_11 : decode cX0_changesOf 11 = .ok (.iconst 0, 1) := by decide +kernel
theorem dX0_changesOf_12 : decode cX0_changesOf 12 = .ok (.goto 9, 3) := by decide +kernel
theorem dX0_changesOf_15 : decode cX0_changesOf 15 = .ok (.aload_n 0, 1) := by decide +kernel
theorem dX0_changesOf_16 : decode cX0_changesOf 16 = .ok (.iload_n 1, 1) := by decide +kernel
theorem dX0_changesOf_17 : decode cX0_changesOf 17 = .ok (.iload_n 2, 1) := by decide +kernel
theorem dX0_changesOf_18 : decode cX0_changesOf 18 = .ok (.invokevirtual 33, 3) := by decide +kernel
theorem dX0_changesOf_21 : decode cX0_changesOf 21 = .ok (.ireturn, 1) := by decide +kernel
theorem dX0_driftOf_0 : decode cX0_driftOf 0 = .ok (.iconst 0, 1) := by decide +kernel
theorem dX0_driftOf_1 : decode cX0_driftOf 1 = .ok (.istore_n 2, 1) := by decide +kernel
theorem dX0_driftOf_2 : decode cX0_driftOf 2 = .ok (.iload_n 1, 1) := by decide +kernel
theorem dX0_driftOf_3 : decode cX0_driftOf 3 = .ok (.istore_n 3, 1) := by decide +kernel
theorem dX0_driftOf_4 : decode cX0_driftOf 4 = .ok (.aload_n 0, 1) := by decide +kernel
theorem dX0_driftOf_5 : decode cX0_driftOf 5 = .ok (.iload_n 3, 1) := by decide +kernel
theorem dX0_driftOf_6 : decode cX0_driftOf 6 = .ok (.invokevirtual 40, 3) := by decide +kernel
theorem dX0_driftOf_9 : decode cX0_driftOf 9 = .ok (.istore 4, 2) := by decide +kernel
theorem dX0_driftOf_11 : decode cX0_driftOf 11 = .ok (.iconst 0, 1) := by decide +kernel
theorem dX0_driftOf_12 : decode cX0_driftOf 12 = .ok (.istore 5, 2) := by decide +kernel
theorem dX0_driftOf_14 : decode cX0_driftOf 14 = .ok (.iload 5, 2) := by decide +kernel
theorem dX0_driftOf_16 : decode cX0_driftOf 16 = .ok (.bipush 40, 2) := by decide +kernel
theorem dX0_driftOf_18 : decode cX0_driftOf 18 = .ok (.if_icmp .ge 35, 3) := by decide +kernel
theorem dX0_driftOf_21 : decode cX0_driftOf 21 = .ok (.iload 4, 2) := by decide +kernel
theorem dX0_driftOf_23 : decode cX0_driftOf 23 = .ok (.iconst (-1), 1) := by decide +kernel
theorem dX0_driftOf_24 : decode cX0_driftOf 24 = .ok (.if_icmp .eq 29, 3) := by decide +kernel
theorem dX0_driftOf_27 : decode cX0_driftOf 27 = .ok (.iload_n 2, 1) := by decide +kernel
theorem dX0_driftOf_28 : decode cX0_driftOf 28 = .ok (.aload_n 0, 1) := by decide +kernel
theorem dX0_driftOf_29 : decode cX0_driftOf 29 = .ok (.iload_n 3, 1) := by decide +kernel
theorem dX0_driftOf_30 : decode cX0_driftOf 30 = .ok (.iload 4, 2) := by decide +kernel
theorem dX0_driftOf_32 : decode cX0_driftOf 32 = .ok (.invokevirtual 33, 3) := by decide +kernel
theorem dX0_driftOf_35 : decode cX0_driftOf 35 = .ok (.iadd, 1) := by decide +kernel
theorem dX0_driftOf_36 : decode cX0_driftOf 36 = .ok (.istore_n 2, 1) := by decide +kernel
theorem dX0_driftOf_37 : decode cX0_driftOf 37 = .ok (.iload 4, 2) := by decide +kernel
theorem dX0_driftOf_39 : decode cX0_driftOf 39 = .ok (.istore_n 3, 1) := by decide +kernel
theorem dX0_driftOf_40 : decode cX0_driftOf 40 = .ok (.aload_n 0, 1) := by decide +kernel
theorem dX0_driftOf_41 : decode cX0_driftOf 41 = .ok (.iload_n 3, 1) := by decide +kernel
theorem dX0_driftOf_42 : decode cX0_driftOf 42 = .ok (.invokevirtual 40, 3) := by decide +kernel
theorem dX0_driftOf_45 : decode cX0_driftOf 45 = .ok (.istore 4, 2) := by decide +kernel
theorem dX0_driftOf_47 : decode cX0_driftOf 47 = .ok (.iinc 5 1, 3) := by decide +kernel
theorem dX0_driftOf_50 : decode cX0_driftOf 50 = .ok (.goto (-36), 3) := by decide +kernel
theorem dX0_driftOf_53 : decode cX0_driftOf 53 = .ok (.iload_n 2, 1) := by decide +kernel
theorem dX0_driftOf_54 : decode cX0_driftOf 54 = .ok (.ireturn, 1) := by decide +kernel
theorem dX0_originalOf_0 : decode cX0_originalOf 0 = .ok (.iload_n 1, 1) := by decide +kernel
theorem dX0_originalOf_1 : decode cX0_originalOf 1 = .ok (.istore_n 2, 1) := by decide +kernel
theorem dX0_originalOf_2 : decode cX0_originalOf 2 = .ok (.aload_n 0, 1) := by decide +kernel
theorem dX0_originalOf_3 : decode cX0_originalOf 3 = .ok (.iload_n 2, 1) := by decide +kernel
theorem dX0_originalOf_4 : decode cX0_originalOf 4 = .ok (.invokevirtual 40, 3) := by decide +kernel
theorem dX0_originalOf_7 : decode cX0_originalOf 7 = .ok (.istore_n 3, 1) := by decide +kernel
theorem dX0_originalOf_8 : decode cX0_originalOf 8 = .ok (.iconst 0, 1) := by decide +kernel
theorem dX0_originalOf_9 : decode cX0_originalOf 9 = .ok (.istore 4, 2) := by decide +kernel
theorem dX0_originalOf_11 : decode cX0_originalOf 11 = .ok (.iload 4, 2) := by decide +kernel
theorem dX0_originalOf_13 : decode cX0_originalOf 13 = .ok (.bipush 40, 2) := by decide +kernel
theorem dX0_originalOf_15 : decode cX0_originalOf 15 = .ok (.if_icmp .ge 22, 3) := by decide +kernel
theorem dX0_originalOf_18 : decode cX0_originalOf 18 = .ok (.iload_n 3, 1) := by decide +kernel
theorem dX0_originalOf_19 : decode cX0_originalOf 19 = .ok (.iconst (-1), 1) := by decide +kernel
theorem dX0_originalOf_20 : decode cX0_originalOf 20 = .ok (.if_icmp .eq 17, 3) := by decide +kernel
theorem dX0_originalOf_23 : decode cX0_originalOf 23 = .ok (.iload_n 3, 1) := by decide +kernel
theorem dX0_originalOf_24 : decode cX0_originalOf 24 = .ok (.istore_n 2, 1) := by decide +kernel
theorem dX0_originalOf_25 : decode cX0_originalOf 25 = .ok (.aload_n 0, 1) := by decide +kernel
theorem dX0_originalOf_26 : decode cX0_originalOf 26 = .ok (.iload_n 2, 1) := by decide +kernel
theorem dX0_originalOf_27 : decode cX0_originalOf 27 = .ok (.invokevirtual 40, 3) := by decide +kernel
theorem dX0_originalOf_30 : decode cX0_originalOf 30 = .ok (.istore_n 3, 1) := by decide +kernel
theorem dX0_originalOf_31 : decode cX0_originalOf 31 = .ok (.iinc 4 1, 3) := by decide +kernel
theorem dX0_originalOf_34 : decode cX0_originalOf 34 = .ok (.goto (-23), 3) := by decide +kernel
theorem dX0_originalOf_37 : decode cX0_originalOf 37 = .ok (.iload_n 2, 1) := by decide +kernel
theorem dX0_originalOf_38 : decode cX0_originalOf 38 = .ok (.ireturn, 1) := by decide +kernel
theorem dX0_takenFrom_0 : decode cX0_takenFrom 0 = .ok (.iconst 0, 1) := by decide +kernel
theorem dX0_takenFrom_1 : decode cX0_takenFrom 1 = .ok (.istore_n 2, 1) := by decide +kernel
theorem dX0_takenFrom_2 : decode cX0_takenFrom 2 = .ok (.iconst 0, 1) := by decide +kernel
theorem dX0_takenFrom_3 : decode cX0_takenFrom 3 = .ok (.istore_n 3, 1) := by decide +kernel
theorem dX0_takenFrom_4 : decode cX0_takenFrom 4 = .ok (.iload_n 3, 1) := by decide +kernel
theorem dX0_takenFrom_5 : decode cX0_takenFrom 5 = .ok (.aload_n 0, 1) := by decide +kernel
theorem dX0_takenFrom_6 : decode cX0_takenFrom 6 = .ok (.getfield 18, 3) := by decide +kernel
theorem dX0_takenFrom_9 : decode cX0_takenFrom 9 = .ok (.if_icmp .ge 21, 3) := by decide +kernel
theorem dX0_takenFrom_12 : decode cX0_takenFrom 12 = .ok (.aload_n 0, 1) := by decide +kernel
theorem dX0_takenFrom_13 : decode cX0_takenFrom 13 = .ok (.iload_n 3, 1) := by decide +kernel
theorem dX0_takenFrom_14 : decode cX0_takenFrom 14 = .ok (.invokevirtual 40, 3) := by decide +kernel
theorem dX0_takenFrom_17 : decode cX0_takenFrom 17 = .ok (.iload_n 1, 1) := by decide +kernel
theorem dX0_takenFrom_18 : decode cX0_takenFrom 18 = .ok (.if_icmp .ne 6, 3) := by decide +kernel
theorem dX0_takenFrom_21 : decode cX0_takenFrom 21 = .ok (.iinc 2 1, 3) := by decide +kernel
theorem dX0_takenFrom_24 : decode cX0_takenFrom 24 = .ok (.iinc 3 1, 3) := by decide +kernel
theorem dX0_takenFrom_27 : decode cX0_takenFrom 27 = .ok (.goto (-23), 3) := by decide +kernel
theorem dX0_takenFrom_30 : decode cX0_takenFrom 30 = .ok (.iload_n 2, 1) := by decide +kernel
theorem dX0_takenFrom_31 : decode cX0_takenFrom 31 = .ok (.ireturn, 1) := by decide +kernel
end
section
theorem dX1_init_0 : decode cX1_init 0 = .ok (.aload_n 0, 1) := by decide +kernel
theorem dX1_init_1 : decode cX1_init 1 = .ok (.invokespecial 3, 3) := by decide +kernel
theorem dX1_init_4 : decode cX1_init 4 = .ok (.aload_n 0, 1) := by decide +kernel
theorem dX1_init_5 : decode cX1_init 5 = .ok (.bipush 40, 2) := by decide +kernel
theorem dX1_init_7 : decode cX1_init 7 = .ok (.newarray .int, 2) := by decide +kernel
theorem dX1_init_9 : decode cX1_init 9 = .ok (.putfield 11, 3) := by decide +kernel
theorem dX1_init_12 : decode cX1_init 12 = .ok (.aload_n 0, 1) := by decide +kernel
theorem dX1_init_13 : decode cX1_init 13 = .ok (.bipush 40, 2) := by decide +kernel
theorem dX1_init_15 : decode cX1_init 15 = .ok (.newarray .int, 2) := by decide +kernel
theorem dX1_init_17 : decode cX1_init 17 = .ok (.putfield 15, 3) := by decide +kernel
theorem dX1_init_20 : decode cX1_init 20 = .ok (.aload_n 0, 1) := by decide +kernel
theorem dX1_init_21 : decode cX1_init 21 = .ok (.bipush 40, 2) := by decide +kernel
theorem dX1_init_23 : decode cX1_init 23 = .ok (.newarray .int, 2) := by decide +kernel
theorem dX1_init_25 : decode cX1_init 25 = .ok (.putfield 18, 3) := by decide +kernel
theorem dX1_init_28 : decode cX1_init 28 = .ok (.aload_n 0, 1) := by decide +kernel
theorem dX1_init_29 : decode cX1_init 29 = .ok (.iconst 0, 1) := by decide +kernel
theorem dX1_init_30 : decode cX1_init 30 = .ok (.putfield 21, 3) := by decide +kernel
theorem dX1_init_33 : decode cX1_init 33 = .ok (.return_, 1) := by decide +kernel
theorem dX1_add_0 : decode cX1_add 0 = .ok (.aload_n 0, 1) := by decide +kernel
theorem dX1_add_1 : decode cX1_add 1 = .ok (.getfield 21, 3) := by decide +kernel
theorem dX1_add_4 : decode cX1_add 4 = .ok (.bipush 40, 2) := by decide +kernel
theorem dX1_add_6 : decode cX1_add 6 = .ok (.if_icmp .ge 21, 3) := by decide +kernel
theorem dX1_add_9 : decode cX1_add 9 = .ok (.iload_n 2, 1) := by decide +kernel
theorem dX1_add_10 : decode cX1_add 10 = .ok (.iconst 1, 1) := by decide +kernel
theorem dX1_add_11 : decode cX1_add 11 = .ok (.if_icmp .lt 16, 3) := by decide +kernel
theorem dX1_add_14 : decode cX1_add 14 = .ok (.iload_n 2, 1) := by decide +kernel
theorem dX1_add_15 : decode cX1_add 15 = .ok (.bipush 99, 2) := by decide +kernel
theorem dX1_add_17 : decode cX1_add 17 = .ok (.if_icmp .gt 10, 3) := by decide +kernel
theorem dX1_add_20 : decode cX1_add 20 = .ok (.iload_n 3, 1) := by decide +kernel
theorem dX1_add_21 : decode cX1_add 21 = .ok (.invokestatic 25, 3) := by decide +kernel
theorem dX1_add_24 : decode cX1_add 24 = .ok (.ifCond .ne 5, 3) := by decide +kernel
theorem dX1_add_27 : decode cX1_add 27 = .ok (.iconst (-1), 1) := by decide +kernel
theorem dX1_add_28 : decode cX1_add 28 = .ok (.ireturn, 1) := by decide +kernel
theorem dX1_add_29 : decode cX1_add 29 = .ok (.aload_n 0, 1) := by decide +kernel
theorem dX1_add_30 : decode cX1_add 30 = .ok (.getfield 21, 3) := by decide +kernel
theorem dX1_add_33 : decode cX1_add 33 = .ok (.istore 4, 2) := by decide +kernel
theorem dX1_add_35 : decode cX1_add 35 = .ok (.aload_n 0, 1) := by decide +kernel
theorem dX1_add_36 : decode cX1_add 36 = .ok (.getfield 11, 3) := by decide +kernel
theorem dX1_add_39 : decode cX1_add 39 = .ok (.iload 4, 2) := by decide +kernel
theorem dX1_add_41 : decode cX1_add 41 = .ok (.iload_n 1, 1) := by decide +kernel
theorem dX1_add_42 : decode cX1_add 42 = .ok (.iastore, 1) := by decide +kernel
theorem dX1_add_43 : decode cX1_add 43 = .ok (.aload_n 0, 1) := by decide +kernel
theorem dX1_add_44 : decode cX1_add 44 = .ok (.getfield 15, 3) := by decide +kernel
theorem dX1_add_47 : decode cX1_add 47 = .ok (.iload 4, 2) := by decide +kernel
theorem dX1_add_49 : decode cX1_add 49 = .ok (.iload_n 2, 1) := by decide +kernel
theorem dX1_add_50 : decode cX1_add 50 = .ok (.iastore, 1) := by decide +kernel
theorem dX1_add_51 : decode cX1_add 51 = .ok (.aload_n 0, 1) := by decide +kernel
theorem dX1_add_52 : decode cX1_add 52 = .ok (.getfield 18, 3) := by decide +kernel
theorem dX1_add_55 : decode cX1_add 55 = .ok (.iload 4, 2) := by decide +kernel
theorem dX1_add_57 : decode cX1_add 57 = .ok (.iload_n 3, 1) := by decide +kernel
theorem dX1_add_58 : decode cX1_add 58 = .ok (.iastore, 1) := by decide +kernel
theorem dX1_add_59 : decode cX1_add 59 = .ok (.aload_n 0, 1) := by decide +kernel
theorem dX1_add_60 : decode cX1_add 60 = .ok (.iload 4, 2) := by decide +kernel
theorem dX1_add_62 : decode cX1_add 62 = .ok (.iconst 1, 1) := by decide +kernel
theorem dX1_add_63 : decode cX1_add 63 = .ok (.iadd, 1) := by decide +kernel
theorem dX1_add_64 : decode cX1_add 64 = .ok (.putfield 21, 3) := by decide +kernel
theorem dX1_add_67 : decode cX1_add 67 = .ok (.iload 4, 2) := by decide +kernel
theorem dX1_add_69 : decode cX1_add 69 = .ok (.ireturn, 1) := by decide +kernel
theorem dX1_ownArms_0 : decode cX1_ownArms 0 = .ok (.iconst (-1), 1) := by decide +kernel
theorem dX1_ownArms_1 : decode cX1_ownArms 1 = .ok (.istore_n 3, 1) := by decide +kernel
theorem dX1_ownArms_2 : decode cX1_ownArms 2 = .ok (.sipush 1000, 3) := by decide +kernel
theorem dX1_ownArms_5 : decode cX1_ownArms 5 = .ok (.istore 4, 2) := by decide +kernel
theorem dX1_ownArms_7 : decode cX1_ownArms 7 = .ok (.iconst 0, 1) := by decide +kernel
theorem dX1_ownArms_8 : decode cX1_ownArms 8 = .ok (.istore 5, 2) := by decide +kernel
theorem dX1_ownArms_10 : decode cX1_ownArms 10 = .ok (.iload 5, 2) := by decide +kernel
theorem dX1_ownArms_12 : decode cX1_ownArms 12 = .ok (.aload_n 0, 1) := by decide +kernel
theorem dX1_ownArms_13 : decode cX1_ownArms 13 = .ok (.getfield 21, 3) := by decide +kernel
theorem dX1_ownArms_16 : decode cX1_ownArms 16 = .ok (.if_icmp .ge 60, 3) := by decide +kernel
theorem dX1_ownArms_19 : decode cX1_ownArms 19 = .ok (.aload_n 0, 1) := by decide +kernel
theorem dX1_ownArms_20 : decode cX1_ownArms 20 = .ok (.getfield 11, 3) := by decide +kernel
theorem dX1_ownArms_23 : decode cX1_ownArms 23 = .ok (.iload 5, 2) := by decide +kernel
theorem dX1_ownArms_25 : decode cX1_ownArms 25 = .ok (.iaload, 1) := by decide +kernel
theorem dX1_ownArms_26 : decode cX1_ownArms 26 = .ok (.iload_n 1, 1) := by decide +kernel
theorem dX1_ownArms_27 : decode cX1_ownArms 27 = .ok (.if_icmp .ne 43, 3) := by decide +kernel
theorem dX1_ownArms_30 : decode cX1_ownArms 30 = .ok (.aload_n 0, 1) := by decide +kernel
theorem dX1_ownArms_31 : decode cX1_ownArms 31 = .ok (.getfield 18, 3) := by decide +kernel
theorem dX1_ownArms_34 : decode cX1_ownArms 34 = .ok (.iload 5, 2) := by decide +kernel
theorem dX1_ownArms_36 : decode cX1_ownArms 36 = .ok (.iaload, 1) := by decide +kernel
theorem dX1_ownArms_37 : decode cX1_ownArms 37 = .ok (.iload_n 2, 1) := by decide +kernel
theorem dX1_ownArms_38 : decode cX1_ownArms 38 = .ok (.if_icmp .gt 32, 3) := by decide +kernel
theorem dX1_ownArms_41 : decode cX1_ownArms 41 = .ok (.aload_n 0, 1) := by decide +kernel
theorem dX1_ownArms_42 : decode cX1_ownArms 42 = .ok (.getfield 18, 3) := by decide +kernel
theorem dX1_ownArms_45 : decode cX1_ownArms 45 = .ok (.iload 5, 2) := by decide +kernel
theorem dX1_ownArms_47 : decode cX1_ownArms 47 = .ok (.iaload, 1) := by decide +kernel
theorem dX1_ownArms_48 : decode cX1_ownArms 48 = .ok (.iload 4, 2) := by decide +kernel
theorem dX1_ownArms_50 : decode cX1_ownArms 50 = .ok (.if_icmp .lt 20, 3) := by decide +kernel
theorem dX1_ownArms_53 : decode cX1_ownArms 53 = .ok (.aload_n 0, 1) := by decide +kernel
theorem dX1_ownArms_54 : decode cX1_ownArms 54 = .ok (.getfield 15, 3) := by decide +kernel
theorem dX1_ownArms_57 : decode cX1_ownArms 57 = .ok (.iload 5, 2) := by decide +kernel
theorem dX1_ownArms_59 : decode cX1_ownArms 59 = .ok (.iaload, 1) := by decide +kernel
theorem dX1_ownArms_60 : decode cX1_ownArms 60 = .ok (.istore_n 3, 1) := by decide +kernel
theorem dX1_ownArms_61 : decode cX1_ownArms 61 = .ok (.aload_n 0, 1) := by decide +kernel
theorem dX1_ownArms_62 : decode cX1_ownArms 62 = .ok (.getfield 18, 3) := by decide +kernel
theorem dX1_ownArms_65 : decode cX1_ownArms 65 = .ok (.iload 5, 2) := by decide +kernel
theorem dX1_ownArms_67 : decode cX1_ownArms 67 = .ok (.iaload, 1) := by decide +kernel
theorem dX1_ownArms_68 : decode cX1_ownArms 68 = .ok (.istore 4, 2) := by decide +kernel
theorem dX1_ownArms_70 : decode cX1_ownArms 70 = .ok (.iinc 5 1, 3) := by decide +kernel
theorem dX1_ownArms_73 : decode cX1_ownArms 73 = .ok (.goto (-63), 3) := by decide +kernel
theorem dX1_ownArms_76 : decode cX1_ownArms 76 = .ok (.iload_n 3, 1) := by decide +kernel
theorem dX1_ownArms_77 : decode cX1_ownArms 77 = .ok (.ireturn, 1) := by decide +kernel
end
section
theorem dX10_init_0 : decode cX10_init 0 = .ok (.aload_n 0, 1) := by decide +kernel
theorem dX10_init_1 : decode cX10_init 1 = .ok (.invokespecial 1, 3) := by decide +kernel
theorem dX10_init_4 : decode cX10_init 4 = .ok (.aload_n 0, 1) := by decide +kernel
theorem dX10_init_5 : decode cX10_init 5 = .ok (.new 7, 3) := by decide +kernel
theorem dX10_init_8 : decode cX10_init 8 = .ok (.dup, 1) := by decide +kernel
theorem dX10_init_9 : decode cX10_init 9 = .ok (.invokespecial 9, 3) := by decide +kernel
theorem dX10_init_12 : decode cX10_init 12 = .ok (.putfield 10, 3) := by decide +kernel
theorem dX10_init_15 : decode cX10_init 15 = .ok (.aload_n 0, 1) := by decide +kernel
theorem dX10_init_16 : decode cX10_init 16 = .ok (.new 16, 3) := by decide +kernel
theorem dX10_init_19 : decode cX10_init 19 = .ok (.dup, 1) := by decide +kernel
theorem dX10_init_20 : decode cX10_init 20 = .ok (.invokespecial 18, 3) := by decide +kernel
theorem dX10_init_23 : decode cX10_init 23 = .ok (.putfield 19, 3) := by decide +kernel
theorem dX10_init_26 : decode cX10_init 26 = .ok (.aload_n 0, 1) := by decide +kernel
theorem dX10_init_27 : decode cX10_init 27 = .ok (.new 23, 3) := by decide +kernel
theorem dX10_init_30 : decode cX10_init 30 = .ok (.dup, 1) := by decide +kernel
theorem dX10_init_31 : decode cX10_init 31 = .ok (.invokespecial 25, 3) := by decide +kernel
theorem dX10_init_34 : decode cX10_init 34 = .ok (.putfield 26, 3) := by decide +kernel
theorem dX10_init_37 : decode cX10_init 37 = .ok (.aload_n 0, 1) := by decide +kernel
theorem dX10_init_38 : decode cX10_init 38 = .ok (.new 30, 3) := by decide +kernel
theorem dX10_init_41 : decode cX10_init 41 = .ok (.dup, 1) := by decide +kernel
theorem dX10_init_42 : decode cX10_init 42 = .ok (.invokespecial 32, 3) := by decide +kernel
theorem dX10_init_45 : decode cX10_init 45 = .ok (.putfield 33, 3) := by decide +kernel
theorem dX10_init_48 : decode cX10_init 48 = .ok (.aload_n 0, 1) := by decide +kernel
theorem dX10_init_49 : decode cX10_init 49 = .ok (.new 37, 3) := by decide +kernel
theorem dX10_init_52 : decode cX10_init 52 = .ok (.dup, 1) := by decide +kernel
theorem dX10_init_53 : decode cX10_init 53 = .ok (.invokespecial 39, 3) := by decide +kernel
theorem dX10_init_56 : decode cX10_init 56 = .ok (.putfield 40, 3) := by decide +kernel
theorem dX10_init_59 : decode cX10_init 59 = .ok (.aload_n 0, 1) := by decide +kernel
theorem dX10_init_60 : decode cX10_init 60 = .ok (.new 44, 3) := by decide +kernel
theorem dX10_init_63 : decode cX10_init 63 = .ok (.dup, 1) := by decide +kernel
theorem dX10_init_64 : decode cX10_init 64 = .ok (.invokespecial 46, 3) := by decide +kernel
theorem dX10_init_67 : decode cX10_init 67 = .ok (.putfield 47, 3) := by decide +kernel
theorem dX10_init_70 : decode cX10_init 70 = .ok (.aload_n 0, 1) := by decide +kernel
theorem dX10_init_71 : decode cX10_init 71 = .ok (.new 51, 3) := by decide +kernel
theorem dX10_init_74 : decode cX10_init 74 = .ok (.dup, 1) := by decide +kernel
theorem dX10_init_75 : decode cX10_init 75 = .ok (.invokespecial 53, 3) := by decide +kernel
theorem dX10_init_78 : decode cX10_init 78 = .ok (.putfield 54, 3) := by decide +kernel
theorem dX10_init_81 : decode cX10_init 81 = .ok (.aload_n 0, 1) := by decide +kernel
theorem dX10_init_82 : decode cX10_init 82 = .ok (.new 58, 3) := by decide +kernel
theorem dX10_init_85 : decode cX10_init 85 = .ok (.dup, 1) := by decide +kernel
theorem dX10_init_86 : decode cX10_init 86 = .ok (.invokespecial 60, 3) := by decide +kernel
theorem dX10_init_89 : decode cX10_init 89 = .ok (.putfield 61, 3) := by decide +kernel
theorem dX10_init_92 : decode cX10_init 92 = .ok (.aload_n 0, 1) := by decide +kernel
theorem dX10_init_93 : decode cX10_init 93 = .ok (.iconst (-1), 1) := by decide +kernel
theorem dX10_init_94 : decode cX10_init 94 = .ok (.putfield 65, 3) := by decide +kernel
theorem dX10_init_97 : decode cX10_init 97 = .ok (.return_, 1) := by decide +kernel
theorem dX10_person_0 : decode cX10_person 0 = .ok (.aload_n 0, 1) := by decide +kernel
theorem dX10_person_1 : decode cX10_person 1 = .ok (.getfield 10, 3) := by decide +kernel
theorem dX10_person_4 : decode cX10_person 4 = .ok (.iload_n 1, 1) := by decide +kernel
theorem dX10_person_5 : decode cX10_person 5 = .ok (.iload_n 2, 1) := by decide +kernel
theorem dX10_person_6 : decode cX10_person 6 = .ok (.iload_n 3, 1) := by decide +kernel
theorem dX10_person_7 : decode cX10_person 7 = .ok (.invokevirtual 69, 3) := by decide +kernel
theorem dX10_person_10 : decode cX10_person 10 = .ok (.ireturn, 1) := by decide +kernel
theorem dX10_parent_0 : decode cX10_parent 0 = .ok (.aload_n 0, 1) := by decide +kernel
theorem dX10_parent_1 : decode cX10_parent 1 = .ok (.iload_n 1, 1) := by decide +kernel
theorem dX10_parent_2 : decode cX10_parent 2 = .ok (.invokevirtual 73, 3) := by decide +kernel
theorem dX10_parent_5 : decode cX10_parent 5 = .ok (.aload_n 0, 1) := by decide +kernel
theorem dX10_parent_6 : decode cX10_parent 6 = .ok (.iload_n 3, 1) := by decide +kernel
theorem dX10_parent_7 : decode cX10_parent 7 = .ok (.invokevirtual 73, 3) := by decide +kernel
theorem dX10_parent_10 : decode cX10_parent 10 = .ok (.iload_n 2, 1) := by decide +kernel
theorem dX10_parent_11 : decode cX10_parent 11 = .ok (.lookupswitch 49 #[(0, 25), (1, 37)], 25) := by decide +kernel
theorem dX10_parent_36 : decode cX10_parent 36 = .ok (.aload_n 0, 1) := by decide +kernel
theorem dX10_parent_37 : decode cX10_parent 37 = .ok (.getfield 10, 3) := by decide +kernel
theorem dX10_parent_40 : decode cX10_parent 40 = .ok (.iload_n 1, 1) := by decide +kernel
theorem dX10_parent_41 : decode cX10_parent 41 = .ok (.iload_n 3, 1) := by decide +kernel
theorem dX10_parent_42 : decode cX10_parent 42 = .ok (.iload 4, 2) := by decide +kernel
theorem dX10_parent_44 : decode cX10_parent 44 = .ok (.invokevirtual 77, 3) := by decide +kernel
theorem dX10_parent_47 : decode cX10_parent 47 = .ok (.ireturn, 1) := by decide +kernel
theorem dX10_parent_48 : decode cX10_parent 48 = .ok (.aload_n 0, 1) := by decide +kernel
theorem dX10_parent_49 : decode cX10_parent 49 = .ok (.getfield 10, 3) := by decide +kernel
theorem dX10_parent_52 : decode cX10_parent 52 = .ok (.iload_n 1, 1) := by decide +kernel
theorem dX10_parent_53 : decode cX10_parent 53 = .ok (.iload_n 3, 1) := by decide +kernel
theorem dX10_parent_54 : decode cX10_parent 54 = .ok (.iload 4, 2) := by decide +kernel
theorem dX10_parent_56 : decode cX10_parent 56 = .ok (.invokevirtual 81, 3) := by decide +kernel
theorem dX10_parent_59 : decode cX10_parent 59 = .ok (.ireturn, 1) := by decide +kernel
theorem dX10_parent_60 : decode cX10_parent 60 = .ok (.new 84, 3) := by decide +kernel
theorem dX10_parent_63 : decode cX10_parent 63 = .ok (.dup, 1) := by decide +kernel
theorem dX10_parent_64 : decode cX10_parent 64 = .ok (.ldc 86, 2) := by decide +kernel
theorem dX10_parent_66 : decode cX10_parent 66 = .ok (.invokespecial 88, 3) := by decide +kernel
theorem dX10_parent_69 : decode cX10_parent 69 = .ok (.athrow, 1) := by decide +kernel
theorem dX10_grant_0 : decode cX10_grant 0 = .ok (.aload_n 0, 1) := by decide +kernel
theorem dX10_grant_1 : decode cX10_grant 1 = .ok (.iload_n 1, 1) := by decide +kernel
theorem dX10_grant_2 : decode cX10_grant 2 = .ok (.invokevirtual 73, 3) := by decide +kernel
theorem dX10_grant_5 : decode cX10_grant 5 = .ok (.aload_n 0, 1) := by decide +kernel
theorem dX10_grant_6 : decode cX10_grant 6 = .ok (.getfield 19, 3) := by decide +kernel
theorem dX10_grant_9 : decode cX10_grant 9 = .ok (.iload_n 1, 1) := by decide +kernel
theorem dX10_grant_10 : decode cX10_grant 10 = .ok (.iload_n 2, 1) := by decide +kernel
theorem dX10_grant_11 : decode cX10_grant 11 = .ok (.iload_n 3, 1) := by decide +kernel
theorem dX10_grant_12 : decode cX10_grant 12 = .ok (.invokevirtual 91, 3) := by decide +kernel
theorem dX10_grant_15 : decode cX10_grant 15 = .ok (.ireturn, 1) := by decide +kernel
theorem dX10_feed_0 : decode cX10_feed 0 = .ok (.aload_n 0, 1) := by decide +kernel
theorem dX10_feed_1 : decode cX10_feed 1 = .ok (.getfield 40, 3) := by decide +kernel
theorem dX10_feed_4 : decode cX10_feed 4 = .ok (.invokevirtual 94, 3) := by decide +kernel
theorem dX10_feed_7 : decode cX10_feed 7 = .ok (.ifCond .ne 5, 3) := by decide +kernel
theorem dX10_feed_10 : decode cX10_feed 10 = .ok (.iconst (-1), 1) := by decide +kernel
theorem dX10_feed_11 : decode cX10_feed 11 = .ok (.ireturn, 1) := by decide +kernel
theorem dX10_feed_12 : decode cX10_feed 12 = .ok (.aload_n 0, 1) := by decide +kernel
theorem dX10_feed_13 : decode cX10_feed 13 = .ok (.getfield 40, 3) := by decide +kernel
theorem dX10_feed_16 : decode cX10_feed 16 = .ok (.iload_n 1, 1) := by decide +kernel
theorem dX10_feed_17 : decode cX10_feed 17 = .ok (.invokevirtual 98, 3) := by decide +kernel
theorem dX10_feed_20 : decode cX10_feed 20 = .ok (.aload_n 0, 1) := by decide +kernel
theorem dX10_feed_21 : decode cX10_feed 21 = .ok (.getfield 40, 3) := by decide +kernel
theorem dX10_feed_24 : decode cX10_feed 24 = .ok (.iload_n 2, 1) := by decide +kernel
theorem dX10_feed_25 : decode cX10_feed 25 = .ok (.invokevirtual 98, 3) := by decide +kernel
theorem dX10_feed_28 : decode cX10_feed 28 = .ok (.aload_n 0, 1) := by decide +kernel
theorem dX10_feed_29 : decode cX10_feed 29 = .ok (.getfield 40, 3) := by decide +kernel
theorem dX10_feed_32 : decode cX10_feed 32 = .ok (.iload_n 3, 1) := by decide +kernel
theorem dX10_feed_33 : decode cX10_feed 33 = .ok (.invokevirtual 98, 3) := by decide +kernel
theorem dX10_feed_36 : decode cX10_feed 36 = .ok (.aload_n 0, 1) := by decide +kernel
theorem dX10_feed_37 : decode cX10_feed 37 = .ok (.getfield 40, 3) := by decide +kernel
theorem dX10_feed_40 : decode cX10_feed 40 = .ok (.iload 4, 2) := by decide +kernel
theorem dX10_feed_42 : decode cX10_feed 42 = .ok (.invokevirtual 98, 3) := by decide +kernel
theorem dX10_feed_45 : decode cX10_feed 45 = .ok (.aload_n 0, 1) := by decide +kernel
theorem dX10_feed_46 : decode cX10_feed 46 = .ok (.getfield 40, 3) := by decide +kernel
theorem dX10_feed_49 : decode cX10_feed 49 = .ok (.iload 5, 2) := by decide +kernel
theorem dX10_feed_51 : decode cX10_feed 51 = .ok (.invokevirtual 98, 3) := by decide +kernel
theorem dX10_feed_54 : decode cX10_feed 54 = .ok (.aload_n 0, 1) := by decide +kernel
theorem dX10_feed_55 : decode cX10_feed 55 = .ok (.getfield 40, 3) := by decide +kernel
theorem dX10_feed_58 : decode cX10_feed 58 = .ok (.getfield 101, 3) := by decide +kernel
theorem dX10_feed_61 : decode cX10_feed 61 = .ok (.ireturn, 1) := by decide +kernel
theorem dX10_text_0 : decode cX10_text 0 = .ok (.iload_n 1, 1) := by decide +kernel
theorem dX10_text_1 : decode cX10_text 1 = .ok (.ifCond .lt 21, 3) := by decide +kernel
theorem dX10_text_4 : decode cX10_text 4 = .ok (.iload_n 1, 1) := by decide +kernel
theorem dX10_text_5 : decode cX10_text 5 = .ok (.aload_n 0, 1) := by decide +kernel
theorem dX10_text_6 : decode cX10_text 6 = .ok (.getfield 40, 3) := by decide +kernel
theorem dX10_text_9 : decode cX10_text 9 = .ok (.getfield 101, 3) := by decide +kernel
theorem dX10_text_12 : decode cX10_text 12 = .ok (.if_icmp .gt 10, 3) := by decide +kernel
theorem dX10_text_15 : decode cX10_text 15 = .ok (.iload_n 2, 1) := by decide +kernel
theorem dX10_text_16 : decode cX10_text 16 = .ok (.invokestatic 104, 3) := by decide +kernel
theorem dX10_text_19 : decode cX10_text 19 = .ok (.ifCond .ne 13, 3) := by decide +kernel
theorem dX10_text_22 : decode cX10_text 22 = .ok (.new 108, 3) := by decide +kernel
theorem dX10_text_25 : decode cX10_text 25 = .ok (.dup, 1) := by decide +kernel
theorem dX10_text_26 : decode cX10_text 26 = .ok (.ldc 110, 2) := by decide +kernel
theorem dX10_text_28 : decode cX10_text 28 = .ok (.invokespecial 112, 3) := by decide +kernel
theorem dX10_text_31 : decode cX10_text 31 = .ok (.athrow, 1) := by decide +kernel
theorem dX10_text_32 : decode cX10_text 32 = .ok (.aload_n 0, 1) := by decide +kernel
theorem dX10_text_33 : decode cX10_text 33 = .ok (.getfield 40, 3) := by decide +kernel
theorem dX10_text_36 : decode cX10_text 36 = .ok (.iconst 0, 1) := by decide +kernel
theorem dX10_text_37 : decode cX10_text 37 = .ok (.putfield 101, 3) := by decide +kernel
theorem dX10_text_40 : decode cX10_text 40 = .ok (.aload_n 0, 1) := by decide +kernel
theorem dX10_text_41 : decode cX10_text 41 = .ok (.iconst (-1), 1) := by decide +kernel
theorem dX10_text_42 : decode cX10_text 42 = .ok (.putfield 65, 3) := by decide +kernel
theorem dX10_text_45 : decode cX10_text 45 = .ok (.aload_n 0, 1) := by decide +kernel
theorem dX10_text_46 : decode cX10_text 46 = .ok (.getfield 54, 3) := by decide +kernel
theorem dX10_text_49 : decode cX10_text 49 = .ok (.invokevirtual 113, 3) := by decide +kernel
theorem dX10_text_52 : decode cX10_text 52 = .ok (.ifCond .eq 6, 3) := by decide +kernel
theorem dX10_text_55 : decode cX10_text 55 = .ok (.bipush (-9), 2) := by decide +kernel
theorem dX10_text_57 : decode cX10_text 57 = .ok (.ireturn, 1) := by decide +kernel
theorem dX10_text_58 : decode cX10_text 58 = .ok (.aload_n 0, 1) := by decide +kernel
theorem dX10_text_59 : decode cX10_text 59 = .ok (.getfield 47, 3) := by decide +kernel
theorem dX10_text_62 : decode cX10_text 62 = .ok (.aload_n 0, 1) := by decide +kernel
theorem dX10_text_63 : decode cX10_text 63 = .ok (.getfield 40, 3) := by decide +kernel
theorem dX10_text_66 : decode cX10_text 66 = .ok (.getfield 116, 3) := by decide +kernel
theorem dX10_text_69 : decode cX10_text 69 = .ok (.iload_n 1, 1) := by decide +kernel
theorem dX10_text_70 : decode cX10_text 70 = .ok (.invokevirtual 120, 3) := by decide +kernel
theorem dX10_text_73 : decode cX10_text 73 = .ok (.aload_n 0, 1) := by decide +kernel
theorem dX10_text_74 : decode cX10_text 74 = .ok (.getfield 47, 3) := by decide +kernel
theorem dX10_text_77 : decode cX10_text 77 = .ok (.getfield 124, 3) := by decide +kernel
theorem dX10_text_80 : decode cX10_text 80 = .ok (.ifCond .eq 24, 3) := by decide +kernel
theorem dX10_text_83 : decode cX10_text 83 = .ok (.aload_n 0, 1) := by decide +kernel
theorem dX10_text_84 : decode cX10_text 84 = .ok (.aload_n 0, 1) := by decide +kernel
theorem dX10_text_85 : decode cX10_text 85 = .ok (.getfield 47, 3) := by decide +kernel
theorem dX10_text_88 : decode cX10_text 88 = .ok (.getfield 127, 3) := by decide +kernel
theorem dX10_text_91 : decode cX10_text 91 = .ok (.putfield 65, 3) := by decide +kernel
theorem dX10_text_94 : decode cX10_text 94 = .ok (.iconst (-1), 1) := by decide +kernel
theorem dX10_text_95 : decode cX10_text 95 = .ok (.aload_n 0, 1) := by decide +kernel
theorem dX10_text_96 : decode cX10_text 96 = .ok (.getfield 47, 3) := by decide +kernel
theorem dX10_text_99 : decode cX10_text 99 = .ok (.getfield 124, 3) := by decide +kernel
theorem dX10_text_102 : decode cX10_text 102 = .ok (.isub, 1) := by decide +kernel
theorem dX10_text_103 : decode cX10_text 103 = .ok (.ireturn, 1) := by decide +kernel
theorem dX10_text_104 : decode cX10_text 104 = .ok (.aload_n 0, 1) := by decide +kernel
theorem dX10_text_105 : decode cX10_text 105 = .ok (.getfield 54, 3) := by decide +kernel
theorem dX10_text_108 : decode cX10_text 108 = .ok (.aload_n 0, 1) := by decide +kernel
theorem dX10_text_109 : decode cX10_text 109 = .ok (.getfield 47, 3) := by decide +kernel
theorem dX10_text_112 : decode cX10_text 112 = .ok (.invokevirtual 130, 3) := by decide +kernel
theorem dX10_text_115 : decode cX10_text 115 = .ok (.iload_n 2, 1) := by decide +kernel
theorem dX10_text_116 : decode cX10_text 116 = .ok (.invokevirtual 134, 3) := by decide +kernel
theorem dX10_text_119 : decode cX10_text 119 = .ok (.ireturn, 1) := by decide +kernel
theorem dX10_fault_0 : decode cX10_fault 0 = .ok (.aload_n 0, 1) := by decide +kernel
theorem dX10_fault_1 : decode cX10_fault 1 = .ok (.getfield 65, 3) := by decide +kernel
theorem dX10_fault_4 : decode cX10_fault 4 = .ok (.ireturn, 1) := by decide +kernel
theorem dX10_about_0 : decode cX10_about 0 = .ok (.aload_n 0, 1) := by decide +kernel
theorem dX10_about_1 : decode cX10_about 1 = .ok (.iload_n 1, 1) := by decide +kernel
theorem dX10_about_2 : decode cX10_about 2 = .ok (.invokevirtual 73, 3) := by decide +kernel
theorem dX10_about_5 : decode cX10_about 5 = .ok (.iload_n 2, 1) := by decide +kernel
theorem dX10_about_6 : decode cX10_about 6 = .ok (.tableswitch 121 0 7 #[46, 55, 64, 73, 82, 91, 100, 112], 46) := by decide +kernel
theorem dX10_about_52 : decode cX10_about 52 = .ok (.aload_n 0, 1) := by decide +kernel
theorem dX10_about_53 : decode cX10_about 53 = .ok (.getfield 10, 3) := by decide +kernel
theorem dX10_about_56 : decode cX10_about 56 = .ok (.iload_n 1, 1) := by decide +kernel
theorem dX10_about_57 : decode cX10_about 57 = .ok (.invokevirtual 137, 3) := by decide +kernel
theorem dX10_about_60 : decode cX10_about 60 = .ok (.ireturn, 1) := by decide +kernel
theorem dX10_about_61 : decode cX10_about 61 = .ok (.aload_n 0, 1) := by decide +kernel
theorem dX10_about_62 : decode cX10_about 62 = .ok (.getfield 10, 3) := by decide +kernel
theorem dX10_about_65 : decode cX10_about 65 = .ok (.iload_n 1, 1) := by decide +kernel
theorem dX10_about_66 : decode cX10_about 66 = .ok (.invokevirtual 141, 3) := by decide +kernel
theorem dX10_about_69 : decode cX10_about 69 = .ok (.ireturn, 1) := by decide +kernel
theorem dX10_about_70 : decode cX10_about 70 = .ok (.aload_n 0, 1) := by decide +kernel
theorem dX10_about_71 : decode cX10_about 71 = .ok (.getfield 10, 3) := by decide +kernel
theorem dX10_about_74 : decode cX10_about 74 = .ok (.iload_n 1, 1) := by decide +kernel
theorem dX10_about_75 : decode cX10_about 75 = .ok (.invokevirtual 144, 3) := by decide +kernel
theorem dX10_about_78 : decode cX10_about 78 = .ok (.ireturn, 1) := by decide +kernel
theorem dX10_about_79 : decode cX10_about 79 = .ok (.aload_n 0, 1) := by decide +kernel
theorem dX10_about_80 : decode cX10_about 80 = .ok (.getfield 10, 3) := by decide +kernel
theorem dX10_about_83 : decode cX10_about 83 = .ok (.iload_n 1, 1) := by decide +kernel
theorem dX10_about_84 : decode cX10_about 84 = .ok (.invokevirtual 147, 3) := by decide +kernel
theorem dX10_about_87 : decode cX10_about 87 = .ok (.ireturn, 1) := by decide +kernel
theorem dX10_about_88 : decode cX10_about 88 = .ok (.aload_n 0, 1) := by decide +kernel
theorem dX10_about_89 : decode cX10_about 89 = .ok (.getfield 10, 3) := by decide +kernel
theorem dX10_about_92 : decode cX10_about 92 = .ok (.iload_n 1, 1) := by decide +kernel
theorem dX10_about_93 : decode cX10_about 93 = .ok (.invokevirtual 150, 3) := by decide +kernel
theorem dX10_about_96 : decode cX10_about 96 = .ok (.ireturn, 1) := by decide +kernel
theorem dX10_about_97 : decode cX10_about 97 = .ok (.aload_n 0, 1) := by decide +kernel
theorem dX10_about_98 : decode cX10_about 98 = .ok (.getfield 10, 3) := by decide +kernel
theorem dX10_about_101 : decode cX10_about 101 = .ok (.iload_n 1, 1) := by decide +kernel
theorem dX10_about_102 : decode cX10_about 102 = .ok (.invokevirtual 153, 3) := by decide +kernel
theorem dX10_about_105 : decode cX10_about 105 = .ok (.ireturn, 1) := by decide +kernel
theorem dX10_about_106 : decode cX10_about 106 = .ok (.aload_n 0, 1) := by decide +kernel
theorem dX10_about_107 : decode cX10_about 107 = .ok (.getfield 10, 3) := by decide +kernel
theorem dX10_about_110 : decode cX10_about 110 = .ok (.iload_n 1, 1) := by decide +kernel
theorem dX10_about_111 : decode cX10_about 111 = .ok (.invokevirtual 156, 3) := by decide +kernel
theorem dX10_about_114 : decode cX10_about 114 = .ok (.invokestatic 159, 3) := by decide +kernel
theorem dX10_about_117 : decode cX10_about 117 = .ok (.ireturn, 1) := by decide +kernel
theorem dX10_about_118 : decode cX10_about 118 = .ok (.aload_n 0, 1) := by decide +kernel
theorem dX10_about_119 : decode cX10_about 119 = .ok (.getfield 10, 3) := by decide +kernel
theorem dX10_about_122 : decode cX10_about 122 = .ok (.iload_n 1, 1) := by decide +kernel
theorem dX10_about_123 : decode cX10_about 123 = .ok (.invokevirtual 163, 3) := by decide +kernel
theorem dX10_about_126 : decode cX10_about 126 = .ok (.ireturn, 1) := by decide +kernel
theorem dX10_about_127 : decode cX10_about 127 = .ok (.new 84, 3) := by decide +kernel
theorem dX10_about_130 : decode cX10_about 130 = .ok (.dup, 1) := by decide +kernel
theorem dX10_about_131 : decode cX10_about 131 = .ok (.ldc 166, 2) := by decide +kernel
theorem dX10_about_133 : decode cX10_about 133 = .ok (.invokespecial 88, 3) := by decide +kernel
theorem dX10_about_136 : decode cX10_about 136 = .ok (.athrow, 1) := by decide +kernel
theorem dX10_bears_0 : decode cX10_bears 0 = .ok (.aload_n 0, 1) := by decide +kernel
theorem dX10_bears_1 : decode cX10_bears 1 = .ok (.iload_n 1, 1) := by decide +kernel
theorem dX10_bears_2 : decode cX10_bears 2 = .ok (.invokevirtual 73, 3) := by decide +kernel
theorem dX10_bears_5 : decode cX10_bears 5 = .ok (.aload_n 0, 1) := by decide +kernel
theorem dX10_bears_6 : decode cX10_bears 6 = .ok (.getfield 26, 3) := by decide +kernel
theorem dX10_bears_9 : decode cX10_bears 9 = .ok (.aload_n 0, 1) := by decide +kernel
theorem dX10_bears_10 : decode cX10_bears 10 = .ok (.getfield 10, 3) := by decide +kernel
theorem dX10_bears_13 : decode cX10_bears 13 = .ok (.aload_n 0, 1) := by decide +kernel
theorem dX10_bears_14 : decode cX10_bears 14 = .ok (.getfield 19, 3) := by decide +kernel
theorem dX10_bears_17 : decode cX10_bears 17 = .ok (.iload_n 1, 1) := by decide +kernel
theorem dX10_bears_18 : decode cX10_bears 18 = .ok (.iload_n 2, 1) := by decide +kernel
theorem dX10_bears_19 : decode cX10_bears 19 = .ok (.invokevirtual 168, 3) := by decide +kernel
theorem dX10_bears_22 : decode cX10_bears 22 = .ok (.iload_n 3, 1) := by decide +kernel
theorem dX10_bears_23 : decode cX10_bears 23 = .ok (.tableswitch 138 0 7 #[45, 53, 61, 69, 77, 90, 106, 127], 45) := by decide +kernel
theorem dX10_bears_68 : decode cX10_bears 68 = .ok (.aload_n 0, 1) := by decide +kernel
theorem dX10_bears_69 : decode cX10_bears 69 = .ok (.getfield 26, 3) := by decide +kernel
theorem dX10_bears_72 : decode cX10_bears 72 = .ok (.getfield 172, 3) := by decide +kernel
theorem dX10_bears_75 : decode cX10_bears 75 = .ok (.ireturn, 1) := by decide +kernel
theorem dX10_bears_76 : decode cX10_bears 76 = .ok (.aload_n 0, 1) := by decide +kernel
theorem dX10_bears_77 : decode cX10_bears 77 = .ok (.getfield 26, 3) := by decide +kernel
theorem dX10_bears_80 : decode cX10_bears 80 = .ok (.getfield 175, 3) := by decide +kernel
theorem dX10_bears_83 : decode cX10_bears 83 = .ok (.ireturn, 1) := by decide +kernel
theorem dX10_bears_84 : decode cX10_bears 84 = .ok (.aload_n 0, 1) := by decide +kernel
theorem dX10_bears_85 : decode cX10_bears 85 = .ok (.getfield 26, 3) := by decide +kernel
theorem dX10_bears_88 : decode cX10_bears 88 = .ok (.getfield 178, 3) := by decide +kernel
theorem dX10_bears_91 : decode cX10_bears 91 = .ok (.ireturn, 1) := by decide +kernel
theorem dX10_bears_92 : decode cX10_bears 92 = .ok (.aload_n 0, 1) := by decide +kernel
theorem dX10_bears_93 : decode cX10_bears 93 = .ok (.getfield 26, 3) := by decide +kernel
theorem dX10_bears_96 : decode cX10_bears 96 = .ok (.getfield 181, 3) := by decide +kernel
theorem dX10_bears_99 : decode cX10_bears 99 = .ok (.ireturn, 1) := by decide +kernel
theorem dX10_bears_100 : decode cX10_bears 100 = .ok (.aload_n 0, 1) := by decide +kernel
theorem dX10_bears_101 : decode cX10_bears 101 = .ok (.getfield 10, 3) := by decide +kernel
theorem dX10_bears_104 : decode cX10_bears 104 = .ok (.iload_n 1, 1) := by decide +kernel
theorem dX10_bears_105 : decode cX10_bears 105 = .ok (.iload_n 2, 1) := by decide +kernel
theorem dX10_bears_106 : decode cX10_bears 106 = .ok (.invokevirtual 184, 3) := by decide +kernel
theorem dX10_bears_109 : decode cX10_bears 109 = .ok (.invokestatic 159, 3) := by decide +kernel
theorem dX10_bears_112 : decode cX10_bears 112 = .ok (.ireturn, 1) := by decide +kernel
theorem dX10_bears_113 : decode cX10_bears 113 = .ok (.aload_n 0, 1) := by decide +kernel
theorem dX10_bears_114 : decode cX10_bears 114 = .ok (.getfield 10, 3) := by decide +kernel
theorem dX10_bears_117 : decode cX10_bears 117 = .ok (.iload_n 2, 1) := by decide +kernel
theorem dX10_bears_118 : decode cX10_bears 118 = .ok (.invokevirtual 188, 3) := by decide +kernel
theorem dX10_bears_121 : decode cX10_bears 121 = .ok (.iload_n 1, 1) := by decide +kernel
theorem dX10_bears_122 : decode cX10_bears 122 = .ok (.invokestatic 192, 3) := by decide +kernel
theorem dX10_bears_125 : decode cX10_bears 125 = .ok (.invokestatic 159, 3) := by decide +kernel
theorem dX10_bears_128 : decode cX10_bears 128 = .ok (.ireturn, 1) := by decide +kernel
theorem dX10_bears_129 : decode cX10_bears 129 = .ok (.aload_n 0, 1) := by decide +kernel
theorem dX10_bears_130 : decode cX10_bears 130 = .ok (.getfield 10, 3) := by decide +kernel
theorem dX10_bears_133 : decode cX10_bears 133 = .ok (.iload_n 1, 1) := by decide +kernel
theorem dX10_bears_134 : decode cX10_bears 134 = .ok (.iload_n 2, 1) := by decide +kernel
theorem dX10_bears_135 : decode cX10_bears 135 = .ok (.aload_n 0, 1) := by decide +kernel
theorem dX10_bears_136 : decode cX10_bears 136 = .ok (.getfield 10, 3) := by decide +kernel
theorem dX10_bears_139 : decode cX10_bears 139 = .ok (.iload_n 2, 1) := by decide +kernel
theorem dX10_bears_140 : decode cX10_bears 140 = .ok (.invokevirtual 188, 3) := by decide +kernel
theorem dX10_bears_143 : decode cX10_bears 143 = .ok (.invokevirtual 196, 3) := by decide +kernel
theorem dX10_bears_146 : decode cX10_bears 146 = .ok (.invokestatic 159, 3) := by decide +kernel
theorem dX10_bears_149 : decode cX10_bears 149 = .ok (.ireturn, 1) := by decide +kernel
theorem dX10_bears_150 : decode cX10_bears 150 = .ok (.aload_n 0, 1) := by decide +kernel
theorem dX10_bears_151 : decode cX10_bears 151 = .ok (.getfield 26, 3) := by decide +kernel
theorem dX10_bears_154 : decode cX10_bears 154 = .ok (.invokevirtual 200, 3) := by decide +kernel
theorem dX10_bears_157 : decode cX10_bears 157 = .ok (.invokestatic 159, 3) := by decide +kernel
theorem dX10_bears_160 : decode cX10_bears 160 = .ok (.ireturn, 1) := by decide +kernel
theorem dX10_bears_161 : decode cX10_bears 161 = .ok (.new 84, 3) := by decide +kernel
theorem dX10_bears_164 : decode cX10_bears 164 = .ok (.dup, 1) := by decide +kernel
theorem dX10_bears_165 : decode cX10_bears 165 = .ok (.ldc 203, 2) := by decide +kernel
theorem dX10_bears_167 : decode cX10_bears 167 = .ok (.invokespecial 88, 3) := by decide +kernel
theorem dX10_bears_170 : decode cX10_bears 170 = .ok (.athrow, 1) := by decide +kernel
theorem dX10_mark_0 : decode cX10_mark 0 = .ok (.aload_n 0, 1) := by decide +kernel
theorem dX10_mark_1 : decode cX10_mark 1 = .ok (.iload_n 1, 1) := by decide +kernel
theorem dX10_mark_2 : decode cX10_mark 2 = .ok (.invokevirtual 73, 3) := by decide +kernel
theorem dX10_mark_5 : decode cX10_mark 5 = .ok (.aload_n 0, 1) := by decide +kernel
theorem dX10_mark_6 : decode cX10_mark 6 = .ok (.getfield 26, 3) := by decide +kernel
theorem dX10_mark_9 : decode cX10_mark 9 = .ok (.aload_n 0, 1) := by decide +kernel
theorem dX10_mark_10 : decode cX10_mark 10 = .ok (.getfield 10, 3) := by decide +kernel
theorem dX10_mark_13 : decode cX10_mark 13 = .ok (.aload_n 0, 1) := by decide +kernel
theorem dX10_mark_14 : decode cX10_mark 14 = .ok (.getfield 19, 3) := by decide +kernel
theorem dX10_mark_17 : decode cX10_mark 17 = .ok (.iload_n 1, 1) := by decide +kernel
theorem dX10_mark_18 : decode cX10_mark 18 = .ok (.iload_n 2, 1) := by decide +kernel
theorem dX10_mark_19 : decode cX10_mark 19 = .ok (.invokevirtual 168, 3) := by decide +kernel
theorem dX10_mark_22 : decode cX10_mark 22 = .ok (.iload_n 3, 1) := by decide +kernel
theorem dX10_mark_23 : decode cX10_mark 23 = .ok (.ifCond .lt 14, 3) := by decide +kernel
theorem dX10_mark_26 : decode cX10_mark 26 = .ok (.iload_n 3, 1) := by decide +kernel
theorem dX10_mark_27 : decode cX10_mark 27 = .ok (.aload_n 0, 1) := by decide +kernel
theorem dX10_mark_28 : decode cX10_mark 28 = .ok (.getfield 26, 3) := by decide +kernel
theorem dX10_mark_31 : decode cX10_mark 31 = .ok (.getfield 178, 3) := by decide +kernel
theorem dX10_mark_34 : decode cX10_mark 34 = .ok (.if_icmp .lt 13, 3) := by decide +kernel
theorem dX10_mark_37 : decode cX10_mark 37 = .ok (.new 84, 3) := by decide +kernel
theorem dX10_mark_40 : decode cX10_mark 40 = .ok (.dup, 1) := by decide +kernel
theorem dX10_mark_41 : decode cX10_mark 41 = .ok (.ldc 205, 2) := by decide +kernel
theorem dX10_mark_43 : decode cX10_mark 43 = .ok (.invokespecial 88, 3) := by decide +kernel
theorem dX10_mark_46 : decode cX10_mark 46 = .ok (.athrow, 1) := by decide +kernel
theorem dX10_mark_47 : decode cX10_mark 47 = .ok (.aload_n 0, 1) := by decide +kernel
theorem dX10_mark_48 : decode cX10_mark 48 = .ok (.getfield 26, 3) := by decide +kernel
theorem dX10_mark_51 : decode cX10_mark 51 = .ok (.iload_n 3, 1) := by decide +kernel
theorem dX10_mark_52 : decode cX10_mark 52 = .ok (.invokevirtual 207, 3) := by decide +kernel
theorem dX10_mark_55 : decode cX10_mark 55 = .ok (.ireturn, 1) := by decide +kernel
theorem dX10_head_0 : decode cX10_head 0 = .ok (.aload_n 0, 1) := by decide +kernel
theorem dX10_head_1 : decode cX10_head 1 = .ok (.iload_n 1, 1) := by decide +kernel
theorem dX10_head_2 : decode cX10_head 2 = .ok (.invokevirtual 73, 3) := by decide +kernel
theorem dX10_head_5 : decode cX10_head 5 = .ok (.aload_n 0, 1) := by decide +kernel
theorem dX10_head_6 : decode cX10_head 6 = .ok (.getfield 10, 3) := by decide +kernel
theorem dX10_head_9 : decode cX10_head 9 = .ok (.iload_n 1, 1) := by decide +kernel
theorem dX10_head_10 : decode cX10_head 10 = .ok (.iload_n 2, 1) := by decide +kernel
theorem dX10_head_11 : decode cX10_head 11 = .ok (.invokevirtual 210, 3) := by decide +kernel
theorem dX10_head_14 : decode cX10_head 14 = .ok (.ireturn, 1) := by decide +kernel
theorem dX10_quarter_0 : decode cX10_quarter 0 = .ok (.aload_n 0, 1) := by decide +kernel
theorem dX10_quarter_1 : decode cX10_quarter 1 = .ok (.iload_n 1, 1) := by decide +kernel
theorem dX10_quarter_2 : decode cX10_quarter 2 = .ok (.invokevirtual 73, 3) := by decide +kernel
theorem dX10_quarter_5 : decode cX10_quarter 5 = .ok (.aload_n 0, 1) := by decide +kernel
theorem dX10_quarter_6 : decode cX10_quarter 6 = .ok (.getfield 33, 3) := by decide +kernel
theorem dX10_quarter_9 : decode cX10_quarter 9 = .ok (.aload_n 0, 1) := by decide +kernel
theorem dX10_quarter_10 : decode cX10_quarter 10 = .ok (.getfield 10, 3) := by decide +kernel
theorem dX10_quarter_13 : decode cX10_quarter 13 = .ok (.aload_n 0, 1) := by decide +kernel
theorem dX10_quarter_14 : decode cX10_quarter 14 = .ok (.getfield 19, 3) := by decide +kernel
theorem dX10_quarter_17 : decode cX10_quarter 17 = .ok (.iload_n 1, 1) := by decide +kernel
theorem dX10_quarter_18 : decode cX10_quarter 18 = .ok (.iload_n 2, 1) := by decide +kernel
theorem dX10_quarter_19 : decode cX10_quarter 19 = .ok (.invokevirtual 214, 3) := by decide +kernel
theorem dX10_quarter_22 : decode cX10_quarter 22 = .ok (.aload_n 0, 1) := by decide +kernel
theorem dX10_quarter_23 : decode cX10_quarter 23 = .ok (.getfield 33, 3) := by decide +kernel
theorem dX10_quarter_26 : decode cX10_quarter 26 = .ok (.iload_n 1, 1) := by decide +kernel
theorem dX10_quarter_27 : decode cX10_quarter 27 = .ok (.invokevirtual 217, 3) := by decide +kernel
theorem dX10_quarter_30 : decode cX10_quarter 30 = .ok (.istore 4, 2) := by decide +kernel
theorem dX10_quarter_32 : decode cX10_quarter 32 = .ok (.iload_n 3, 1) := by decide +kernel
theorem dX10_quarter_33 : decode cX10_quarter 33 = .ok (.iconst (-1), 1) := by decide +kernel
theorem dX10_quarter_34 : decode cX10_quarter 34 = .ok (.if_icmp .ne 6, 3) := by decide +kernel
theorem dX10_quarter_37 : decode cX10_quarter 37 = .ok (.iload 4, 2) := by decide +kernel
theorem dX10_quarter_39 : decode cX10_quarter 39 = .ok (.ireturn, 1) := by decide +kernel
theorem dX10_quarter_40 : decode cX10_quarter 40 = .ok (.iload_n 3, 1) := by decide +kernel
theorem dX10_quarter_41 : decode cX10_quarter 41 = .ok (.ifCond .lt 9, 3) := by decide +kernel
theorem dX10_quarter_44 : decode cX10_quarter 44 = .ok (.iload_n 3, 1) := by decide +kernel
theorem dX10_quarter_45 : decode cX10_quarter 45 = .ok (.iload 4, 2) := by decide +kernel
theorem dX10_quarter_47 : decode cX10_quarter 47 = .ok (.if_icmp .lt 13, 3) := by decide +kernel
theorem dX10_quarter_50 : decode cX10_quarter 50 = .ok (.new 84, 3) := by decide +kernel
theorem dX10_quarter_53 : decode cX10_quarter 53 = .ok (.dup, 1) := by decide +kernel
theorem dX10_quarter_54 : decode cX10_quarter 54 = .ok (.ldc 220, 2) := by decide +kernel
theorem dX10_quarter_56 : decode cX10_quarter 56 = .ok (.invokespecial 88, 3) := by decide +kernel
theorem dX10_quarter_59 : decode cX10_quarter 59 = .ok (.athrow, 1) := by decide +kernel
theorem dX10_quarter_60 : decode cX10_quarter 60 = .ok (.aload_n 0, 1) := by decide +kernel
theorem dX10_quarter_61 : decode cX10_quarter 61 = .ok (.getfield 33, 3) := by decide +kernel
theorem dX10_quarter_64 : decode cX10_quarter 64 = .ok (.iload_n 1, 1) := by decide +kernel
theorem dX10_quarter_65 : decode cX10_quarter 65 = .ok (.iload_n 3, 1) := by decide +kernel
theorem dX10_quarter_66 : decode cX10_quarter 66 = .ok (.invokevirtual 222, 3) := by decide +kernel
theorem dX10_quarter_69 : decode cX10_quarter 69 = .ok (.ireturn, 1) := by decide +kernel
theorem dX10_claim_0 : decode cX10_claim 0 = .ok (.aload_n 0, 1) := by decide +kernel
theorem dX10_claim_1 : decode cX10_claim 1 = .ok (.iload_n 1, 1) := by decide +kernel
theorem dX10_claim_2 : decode cX10_claim 2 = .ok (.invokevirtual 73, 3) := by decide +kernel
theorem dX10_claim_5 : decode cX10_claim 5 = .ok (.aload_n 0, 1) := by decide +kernel
theorem dX10_claim_6 : decode cX10_claim 6 = .ok (.getfield 26, 3) := by decide +kernel
theorem dX10_claim_9 : decode cX10_claim 9 = .ok (.aload_n 0, 1) := by decide +kernel
theorem dX10_claim_10 : decode cX10_claim 10 = .ok (.getfield 10, 3) := by decide +kernel
theorem dX10_claim_13 : decode cX10_claim 13 = .ok (.aload_n 0, 1) := by decide +kernel
theorem dX10_claim_14 : decode cX10_claim 14 = .ok (.getfield 19, 3) := by decide +kernel
theorem dX10_claim_17 : decode cX10_claim 17 = .ok (.iload_n 1, 1) := by decide +kernel
theorem dX10_claim_18 : decode cX10_claim 18 = .ok (.iload_n 3, 1) := by decide +kernel
theorem dX10_claim_19 : decode cX10_claim 19 = .ok (.invokevirtual 168, 3) := by decide +kernel
theorem dX10_claim_22 : decode cX10_claim 22 = .ok (.aload_n 0, 1) := by decide +kernel
theorem dX10_claim_23 : decode cX10_claim 23 = .ok (.getfield 26, 3) := by decide +kernel
theorem dX10_claim_26 : decode cX10_claim 26 = .ok (.getfield 172, 3) := by decide +kernel
theorem dX10_claim_29 : decode cX10_claim 29 = .ok (.iconst (-1), 1) := by decide +kernel
theorem dX10_claim_30 : decode cX10_claim 30 = .ok (.if_icmp .eq 14, 3) := by decide +kernel
theorem dX10_claim_33 : decode cX10_claim 33 = .ok (.aload_n 0, 1) := by decide +kernel
theorem dX10_claim_34 : decode cX10_claim 34 = .ok (.getfield 26, 3) := by decide +kernel
theorem dX10_claim_37 : decode cX10_claim 37 = .ok (.getfield 172, 3) := by decide +kernel
theorem dX10_claim_40 : decode cX10_claim 40 = .ok (.iload_n 2, 1) := by decide +kernel
theorem dX10_claim_41 : decode cX10_claim 41 = .ok (.if_icmp .eq 5, 3) := by decide +kernel
theorem dX10_claim_44 : decode cX10_claim 44 = .ok (.iconst 1, 1) := by decide +kernel
theorem dX10_claim_45 : decode cX10_claim 45 = .ok (.ireturn, 1) := by decide +kernel
theorem dX10_claim_46 : decode cX10_claim 46 = .ok (.aload_n 0, 1) := by decide +kernel
theorem dX10_claim_47 : decode cX10_claim 47 = .ok (.getfield 10, 3) := by decide +kernel
theorem dX10_claim_50 : decode cX10_claim 50 = .ok (.iload_n 1, 1) := by decide +kernel
theorem dX10_claim_51 : decode cX10_claim 51 = .ok (.iload_n 3, 1) := by decide +kernel
theorem dX10_claim_52 : decode cX10_claim 52 = .ok (.invokevirtual 184, 3) := by decide +kernel
theorem dX10_claim_55 : decode cX10_claim 55 = .ok (.ifCond .ne 5, 3) := by decide +kernel
theorem dX10_claim_58 : decode cX10_claim 58 = .ok (.iconst 2, 1) := by decide +kernel
theorem dX10_claim_59 : decode cX10_claim 59 = .ok (.ireturn, 1) := by decide +kernel
theorem dX10_claim_60 : decode cX10_claim 60 = .ok (.aload_n 0, 1) := by decide +kernel
theorem dX10_claim_61 : decode cX10_claim 61 = .ok (.iload_n 1, 1) := by decide +kernel
theorem dX10_claim_62 : decode cX10_claim 62 = .ok (.iload_n 3, 1) := by decide +kernel
theorem dX10_claim_63 : decode cX10_claim 63 = .ok (.invokevirtual 225, 3) := by decide +kernel
theorem dX10_claim_66 : decode cX10_claim 66 = .ok (.aload_n 0, 1) := by decide +kernel
theorem dX10_claim_67 : decode cX10_claim 67 = .ok (.getfield 54, 3) := by decide +kernel
theorem dX10_claim_70 : decode cX10_claim 70 = .ok (.getfield 229, 3) := by decide +kernel
theorem dX10_claim_73 : decode cX10_claim 73 = .ok (.ifCond .eq 5, 3) := by decide +kernel
theorem dX10_claim_76 : decode cX10_claim 76 = .ok (.iconst 3, 1) := by decide +kernel
theorem dX10_claim_77 : decode cX10_claim 77 = .ok (.ireturn, 1) := by decide +kernel
theorem dX10_claim_78 : decode cX10_claim 78 = .ok (.aload_n 0, 1) := by decide +kernel
theorem dX10_claim_79 : decode cX10_claim 79 = .ok (.getfield 54, 3) := by decide +kernel
theorem dX10_claim_82 : decode cX10_claim 82 = .ok (.getfield 233, 3) := by decide +kernel
theorem dX10_claim_85 : decode cX10_claim 85 = .ok (.ifCond .eq 17, 3) := by decide +kernel
theorem dX10_claim_88 : decode cX10_claim 88 = .ok (.aload_n 0, 1) := by decide +kernel
theorem dX10_claim_89 : decode cX10_claim 89 = .ok (.getfield 26, 3) := by decide +kernel
theorem dX10_claim_92 : decode cX10_claim 92 = .ok (.invokevirtual 200, 3) := by decide +kernel
theorem dX10_claim_95 : decode cX10_claim 95 = .ok (.ifCond .ne 7, 3) := by decide +kernel
theorem dX10_claim_98 : decode cX10_claim 98 = .ok (.iconst 4, 1) := by decide +kernel
theorem dX10_claim_99 : decode cX10_claim 99 = .ok (.goto 4, 3) := by decide +kernel
theorem dX10_claim_102 : decode cX10_claim 102 = .ok (.iconst 0, 1) := by decide +kernel
theorem dX10_claim_103 : decode cX10_claim 103 = .ok (.ireturn, 1) := by decide +kernel
theorem dX10_fee_0 : decode cX10_fee 0 = .ok (.aload_n 0, 1) := by decide +kernel
theorem dX10_fee_1 : decode cX10_fee 1 = .ok (.iload_n 1, 1) := by decide +kernel
theorem dX10_fee_2 : decode cX10_fee 2 = .ok (.invokevirtual 73, 3) := by decide +kernel
theorem dX10_fee_5 : decode cX10_fee 5 = .ok (.aload_n 0, 1) := by decide +kernel
theorem dX10_fee_6 : decode cX10_fee 6 = .ok (.getfield 26, 3) := by decide +kernel
theorem dX10_fee_9 : decode cX10_fee 9 = .ok (.aload_n 0, 1) := by decide +kernel
theorem dX10_fee_10 : decode cX10_fee 10 = .ok (.getfield 10, 3) := by decide +kernel
theorem dX10_fee_13 : decode cX10_fee 13 = .ok (.aload_n 0, 1) := by decide +kernel
theorem dX10_fee_14 : decode cX10_fee 14 = .ok (.getfield 19, 3) := by decide +kernel
theorem dX10_fee_17 : decode cX10_fee 17 = .ok (.iload_n 1, 1) := by decide +kernel
theorem dX10_fee_18 : decode cX10_fee 18 = .ok (.iload_n 2, 1) := by decide +kernel
theorem dX10_fee_19 : decode cX10_fee 19 = .ok (.invokevirtual 168, 3) := by decide +kernel
theorem dX10_fee_22 : decode cX10_fee 22 = .ok (.aload_n 0, 1) := by decide +kernel
theorem dX10_fee_23 : decode cX10_fee 23 = .ok (.getfield 26, 3) := by decide +kernel
theorem dX10_fee_26 : decode cX10_fee 26 = .ok (.getfield 172, 3) := by decide +kernel
theorem dX10_fee_29 : decode cX10_fee 29 = .ok (.iconst (-1), 1) := by decide +kernel
theorem dX10_fee_30 : decode cX10_fee 30 = .ok (.if_icmp .ne 5, 3) := by decide +kernel
theorem dX10_fee_33 : decode cX10_fee 33 = .ok (.iconst 0, 1) := by decide +kernel
theorem dX10_fee_34 : decode cX10_fee 34 = .ok (.ireturn, 1) := by decide +kernel
theorem dX10_fee_35 : decode cX10_fee 35 = .ok (.aload_n 0, 1) := by decide +kernel
theorem dX10_fee_36 : decode cX10_fee 36 = .ok (.iload_n 1, 1) := by decide +kernel
theorem dX10_fee_37 : decode cX10_fee 37 = .ok (.iload_n 2, 1) := by decide +kernel
theorem dX10_fee_38 : decode cX10_fee 38 = .ok (.invokevirtual 225, 3) := by decide +kernel
theorem dX10_fee_41 : decode cX10_fee 41 = .ok (.aload_n 0, 1) := by decide +kernel
theorem dX10_fee_42 : decode cX10_fee 42 = .ok (.getfield 54, 3) := by decide +kernel
theorem dX10_fee_45 : decode cX10_fee 45 = .ok (.getfield 236, 3) := by decide +kernel
theorem dX10_fee_48 : decode cX10_fee 48 = .ok (.ireturn, 1) := by decide +kernel
theorem dX10_rivals_0 : decode cX10_rivals 0 = .ok (.aload_n 0, 1) := by decide +kernel
theorem dX10_rivals_1 : decode cX10_rivals 1 = .ok (.iload_n 1, 1) := by decide +kernel
theorem dX10_rivals_2 : decode cX10_rivals 2 = .ok (.invokevirtual 73, 3) := by decide +kernel
theorem dX10_rivals_5 : decode cX10_rivals 5 = .ok (.aload_n 0, 1) := by decide +kernel
theorem dX10_rivals_6 : decode cX10_rivals 6 = .ok (.getfield 26, 3) := by decide +kernel
theorem dX10_rivals_9 : decode cX10_rivals 9 = .ok (.aload_n 0, 1) := by decide +kernel
theorem dX10_rivals_10 : decode cX10_rivals 10 = .ok (.getfield 10, 3) := by decide +kernel
theorem dX10_rivals_13 : decode cX10_rivals 13 = .ok (.aload_n 0, 1) := by decide +kernel
theorem dX10_rivals_14 : decode cX10_rivals 14 = .ok (.getfield 19, 3) := by decide +kernel
theorem dX10_rivals_17 : decode cX10_rivals 17 = .ok (.iload_n 1, 1) := by decide +kernel
theorem dX10_rivals_18 : decode cX10_rivals 18 = .ok (.iload_n 2, 1) := by decide +kernel
theorem dX10_rivals_19 : decode cX10_rivals 19 = .ok (.invokevirtual 168, 3) := by decide +kernel
theorem dX10_rivals_22 : decode cX10_rivals 22 = .ok (.aload_n 0, 1) := by decide +kernel
theorem dX10_rivals_23 : decode cX10_rivals 23 = .ok (.iload_n 2, 1) := by decide +kernel
theorem dX10_rivals_24 : decode cX10_rivals 24 = .ok (.invokevirtual 239, 3) := by decide +kernel
theorem dX10_rivals_27 : decode cX10_rivals 27 = .ok (.ireturn, 1) := by decide +kernel
theorem dX10_common_0 : decode cX10_common 0 = .ok (.aload_n 0, 1) := by decide +kernel
theorem dX10_common_1 : decode cX10_common 1 = .ok (.iload_n 1, 1) := by decide +kernel
theorem dX10_common_2 : decode cX10_common 2 = .ok (.invokevirtual 73, 3) := by decide +kernel
theorem dX10_common_5 : decode cX10_common 5 = .ok (.aload_n 0, 1) := by decide +kernel
theorem dX10_common_6 : decode cX10_common 6 = .ok (.iload_n 2, 1) := by decide +kernel
theorem dX10_common_7 : decode cX10_common 7 = .ok (.invokevirtual 73, 3) := by decide +kernel
theorem dX10_common_10 : decode cX10_common 10 = .ok (.aload_n 0, 1) := by decide +kernel
theorem dX10_common_11 : decode cX10_common 11 = .ok (.getfield 10, 3) := by decide +kernel
theorem dX10_common_14 : decode cX10_common 14 = .ok (.iload_n 1, 1) := by decide +kernel
theorem dX10_common_15 : decode cX10_common 15 = .ok (.invokevirtual 242, 3) := by decide +kernel
theorem dX10_common_18 : decode cX10_common 18 = .ok (.aload_n 0, 1) := by decide +kernel
theorem dX10_common_19 : decode cX10_common 19 = .ok (.getfield 10, 3) := by decide +kernel
theorem dX10_common_22 : decode cX10_common 22 = .ok (.iload_n 2, 1) := by decide +kernel
theorem dX10_common_23 : decode cX10_common 23 = .ok (.invokevirtual 242, 3) := by decide +kernel
theorem dX10_common_26 : decode cX10_common 26 = .ok (.land, 1) := by decide +kernel
theorem dX10_common_27 : decode cX10_common 27 = .ok (.lstore_n 3, 1) := by decide +kernel
theorem dX10_common_28 : decode cX10_common 28 = .ok (.aload_n 0, 1) := by decide +kernel
theorem dX10_common_29 : decode cX10_common 29 = .ok (.getfield 10, 3) := by decide +kernel
theorem dX10_common_32 : decode cX10_common 32 = .ok (.getfield 245, 3) := by decide +kernel
theorem dX10_common_35 : decode cX10_common 35 = .ok (.iconst 1, 1) := by decide +kernel
theorem dX10_common_36 : decode cX10_common 36 = .ok (.isub, 1) := by decide +kernel
theorem dX10_common_37 : decode cX10_common 37 = .ok (.istore 5, 2) := by decide +kernel
theorem dX10_common_39 : decode cX10_common 39 = .ok (.iload 5, 2) := by decide +kernel
theorem dX10_common_41 : decode cX10_common 41 = .ok (.ifCond .lt 21, 3) := by decide +kernel
theorem dX10_common_44 : decode cX10_common 44 = .ok (.lload_n 3, 1) := by decide +kernel
theorem dX10_common_45 : decode cX10_common 45 = .ok (.iload 5, 2) := by decide +kernel
theorem dX10_common_47 : decode cX10_common 47 = .ok (.invokestatic 192, 3) := by decide +kernel
theorem dX10_common_50 : decode cX10_common 50 = .ok (.ifCond .eq 6, 3) := by decide +kernel
theorem dX10_common_53 : decode cX10_common 53 = .ok (.iload 5, 2) := by decide +kernel
theorem dX10_common_55 : decode cX10_common 55 = .ok (.ireturn, 1) := by decide +kernel
theorem dX10_common_56 : decode cX10_common 56 = .ok (.iinc 5 (-1), 3) := by decide +kernel
theorem dX10_common_59 : decode cX10_common 59 = .ok (.goto (-20), 3) := by decide +kernel
theorem dX10_common_62 : decode cX10_common 62 = .ok (.iconst (-1), 1) := by decide +kernel
theorem dX10_common_63 : decode cX10_common 63 = .ok (.ireturn, 1) := by decide +kernel
theorem dX10_copy_0 : decode cX10_copy 0 = .ok (.aload_n 0, 1) := by decide +kernel
theorem dX10_copy_1 : decode cX10_copy 1 = .ok (.getfield 61, 3) := by decide +kernel
theorem dX10_copy_4 : decode cX10_copy 4 = .ok (.iload_n 1, 1) := by decide +kernel
theorem dX10_copy_5 : decode cX10_copy 5 = .ok (.iload_n 2, 1) := by decide +kernel
theorem dX10_copy_6 : decode cX10_copy 6 = .ok (.invokevirtual 248, 3) := by decide +kernel
theorem dX10_copy_9 : decode cX10_copy 9 = .ok (.ireturn, 1) := by decide +kernel
theorem dX10_of_0 : decode cX10_of 0 = .ok (.aload_n 0, 1) := by decide +kernel
theorem dX10_of_1 : decode cX10_of 1 = .ok (.getfield 61, 3) := by decide +kernel
theorem dX10_of_4 : decode cX10_of 4 = .ok (.iload_n 1, 1) := by decide +kernel
theorem dX10_of_5 : decode cX10_of 5 = .ok (.invokevirtual 250, 3) := by decide +kernel
theorem dX10_of_8 : decode cX10_of 8 = .ok (.ifCond .ne 13, 3) := by decide +kernel
theorem dX10_of_11 : decode cX10_of 11 = .ok (.new 84, 3) := by decide +kernel
theorem dX10_of_14 : decode cX10_of 14 = .ok (.dup, 1) := by decide +kernel
theorem dX10_of_15 : decode cX10_of 15 = .ok (.ldc 253, 2) := by decide +kernel
theorem dX10_of_17 : decode cX10_of 17 = .ok (.invokespecial 88, 3) := by decide +kernel
theorem dX10_of_20 : decode cX10_of 20 = .ok (.athrow, 1) := by decide +kernel
theorem dX10_of_21 : decode cX10_of 21 = .ok (.iload_n 2, 1) := by decide +kernel
theorem dX10_of_22 : decode cX10_of 22 = .ok (.tableswitch 79 0 4 #[34, 43, 52, 61, 70], 34) := by decide +kernel
theorem dX10_of_56 : decode cX10_of 56 = .ok (.aload_n 0, 1) := by decide +kernel
theorem dX10_of_57 : decode cX10_of 57 = .ok (.getfield 61, 3) := by decide +kernel
theorem dX10_of_60 : decode cX10_of 60 = .ok (.iload_n 1, 1) := by decide +kernel
theorem dX10_of_61 : decode cX10_of 61 = .ok (.invokevirtual 255, 3) := by decide +kernel
theorem dX10_of_64 : decode cX10_of 64 = .ok (.ireturn, 1) := by decide +kernel
theorem dX10_of_65 : decode cX10_of 65 = .ok (.aload_n 0, 1) := by decide +kernel
theorem dX10_of_66 : decode cX10_of 66 = .ok (.getfield 61, 3) := by decide +kernel
theorem dX10_of_69 : decode cX10_of 69 = .ok (.iload_n 1, 1) := by decide +kernel
theorem dX10_of_70 : decode cX10_of 70 = .ok (.invokevirtual 258, 3) := by decide +kernel
theorem dX10_of_73 : decode cX10_of 73 = .ok (.ireturn, 1) := by decide +kernel
theorem dX10_of_74 : decode cX10_of 74 = .ok (.aload_n 0, 1) := by decide +kernel
theorem dX10_of_75 : decode cX10_of 75 = .ok (.getfield 61, 3) := by decide +kernel
theorem dX10_of_78 : decode cX10_of 78 = .ok (.iload_n 1, 1) := by decide +kernel
theorem dX10_of_79 : decode cX10_of 79 = .ok (.invokevirtual 261, 3) := by decide +kernel
theorem dX10_of_82 : decode cX10_of 82 = .ok (.ireturn, 1) := by decide +kernel
theorem dX10_of_83 : decode cX10_of 83 = .ok (.aload_n 0, 1) := by decide +kernel
theorem dX10_of_84 : decode cX10_of 84 = .ok (.getfield 61, 3) := by decide +kernel
theorem dX10_of_87 : decode cX10_of 87 = .ok (.iload_n 1, 1) := by decide +kernel
theorem dX10_of_88 : decode cX10_of 88 = .ok (.invokevirtual 264, 3) := by decide +kernel
theorem dX10_of_91 : decode cX10_of 91 = .ok (.ireturn, 1) := by decide +kernel
theorem dX10_of_92 : decode cX10_of 92 = .ok (.aload_n 0, 1) := by decide +kernel
theorem dX10_of_93 : decode cX10_of 93 = .ok (.getfield 61, 3) := by decide +kernel
theorem dX10_of_96 : decode cX10_of 96 = .ok (.iload_n 1, 1) := by decide +kernel
theorem dX10_of_97 : decode cX10_of 97 = .ok (.invokevirtual 267, 3) := by decide +kernel
theorem dX10_of_100 : decode cX10_of 100 = .ok (.ireturn, 1) := by decide +kernel
theorem dX10_of_101 : decode cX10_of 101 = .ok (.new 84, 3) := by decide +kernel
theorem dX10_of_104 : decode cX10_of 104 = .ok (.dup, 1) := by decide +kernel
theorem dX10_of_105 : decode cX10_of 105 = .ok (.ldc_w 270, 3) := by decide +kernel
theorem dX10_of_108 : decode cX10_of 108 = .ok (.invokespecial 88, 3) := by decide +kernel
theorem dX10_of_111 : decode cX10_of 111 = .ok (.athrow, 1) := by decide +kernel
theorem dX10_count_0 : decode cX10_count 0 = .ok (.iload_n 1, 1) := by decide +kernel
theorem dX10_count_1 : decode cX10_count 1 = .ok (.tableswitch 75 0 4 #[35, 43, 51, 59, 67], 35) := by decide +kernel
theorem dX10_count_36 : decode cX10_count 36 = .ok (.aload_n 0, 1) := by decide +kernel
theorem dX10_count_37 : decode cX10_count 37 = .ok (.getfield 10, 3) := by decide +kernel
theorem dX10_count_40 : decode cX10_count 40 = .ok (.getfield 245, 3) := by decide +kernel
theorem dX10_count_43 : decode cX10_count 43 = .ok (.ireturn, 1) := by decide +kernel
theorem dX10_count_44 : decode cX10_count 44 = .ok (.aload_n 0, 1) := by decide +kernel
theorem dX10_count_45 : decode cX10_count 45 = .ok (.getfield 19, 3) := by decide +kernel
theorem dX10_count_48 : decode cX10_count 48 = .ok (.getfield 272, 3) := by decide +kernel
theorem dX10_count_51 : decode cX10_count 51 = .ok (.ireturn, 1) := by decide +kernel
theorem dX10_count_52 : decode cX10_count 52 = .ok (.aload_n 0, 1) := by decide +kernel
theorem dX10_count_53 : decode cX10_count 53 = .ok (.getfield 54, 3) := by decide +kernel
theorem dX10_count_56 : decode cX10_count 56 = .ok (.getfield 273, 3) := by decide +kernel
theorem dX10_count_59 : decode cX10_count 59 = .ok (.ireturn, 1) := by decide +kernel
theorem dX10_count_60 : decode cX10_count 60 = .ok (.aload_n 0, 1) := by decide +kernel
theorem dX10_count_61 : decode cX10_count 61 = .ok (.getfield 61, 3) := by decide +kernel
theorem dX10_count_64 : decode cX10_count 64 = .ok (.getfield 274, 3) := by decide +kernel
theorem dX10_count_67 : decode cX10_count 67 = .ok (.ireturn, 1) := by decide +kernel
theorem dX10_count_68 : decode cX10_count 68 = .ok (.aload_n 0, 1) := by decide +kernel
theorem dX10_count_69 : decode cX10_count 69 = .ok (.getfield 40, 3) := by decide +kernel
theorem dX10_count_72 : decode cX10_count 72 = .ok (.getfield 101, 3) := by decide +kernel
theorem dX10_count_75 : decode cX10_count 75 = .ok (.ireturn, 1) := by decide +kernel
theorem dX10_count_76 : decode cX10_count 76 = .ok (.new 84, 3) := by decide +kernel
theorem dX10_count_79 : decode cX10_count 79 = .ok (.dup, 1) := by decide +kernel
theorem dX10_count_80 : decode cX10_count 80 = .ok (.ldc_w 275, 3) := by decide +kernel
theorem dX10_count_83 : decode cX10_count 83 = .ok (.invokespecial 88, 3) := by decide +kernel
theorem dX10_count_86 : decode cX10_count 86 = .ok (.athrow, 1) := by decide +kernel
theorem dX10_requirePerson_0 : decode cX10_requirePerson 0 = .ok (.aload_n 0, 1) := by decide +kernel
theorem dX10_requirePerson_1 : decode cX10_requirePerson 1 = .ok (.getfield 10, 3) := by decide +kernel
theorem dX10_requirePerson_4 : decode cX10_requirePerson 4 = .ok (.iload_n 1, 1) := by decide +kernel
theorem dX10_requirePerson_5 : decode cX10_requirePerson 5 = .ok (.invokevirtual 277, 3) := by decide +kernel
theorem dX10_requirePerson_8 : decode cX10_requirePerson 8 = .ok (.ifCond .ne 14, 3) := by decide +kernel
theorem dX10_requirePerson_11 : decode cX10_requirePerson 11 = .ok (.new 84, 3) := by decide +kernel
theorem dX10_requirePerson_14 : decode cX10_requirePerson 14 = .ok (.dup, 1) := by decide +kernel
theorem dX10_requirePerson_15 : decode cX10_requirePerson 15 = .ok (.ldc_w 278, 3) := by decide +kernel
theorem dX10_requirePerson_18 : decode cX10_requirePerson 18 = .ok (.invokespecial 88, 3) := by decide +kernel
theorem dX10_requirePerson_21 : decode cX10_requirePerson 21 = .ok (.athrow, 1) := by decide +kernel
theorem dX10_requirePerson_22 : decode cX10_requirePerson 22 = .ok (.return_, 1) := by decide +kernel
theorem dX10_judge_0 : decode cX10_judge 0 = .ok (.aload_n 0, 1) := by decide +kernel
theorem dX10_judge_1 : decode cX10_judge 1 = .ok (.getfield 33, 3) := by decide +kernel
theorem dX10_judge_4 : decode cX10_judge 4 = .ok (.aload_n 0, 1) := by decide +kernel
theorem dX10_judge_5 : decode cX10_judge 5 = .ok (.getfield 10, 3) := by decide +kernel
theorem dX10_judge_8 : decode cX10_judge 8 = .ok (.aload_n 0, 1) := by decide +kernel
theorem dX10_judge_9 : decode cX10_judge 9 = .ok (.getfield 19, 3) := by decide +kernel
theorem dX10_judge_12 : decode cX10_judge 12 = .ok (.iload_n 1, 1) := by decide +kernel
theorem dX10_judge_13 : decode cX10_judge 13 = .ok (.iload_n 2, 1) := by decide +kernel
theorem dX10_judge_14 : decode cX10_judge 14 = .ok (.invokevirtual 214, 3) := by decide +kernel
end
section
theorem dX10_judge_17 : decode cX10_judge 17 = .ok (.aload_n 0, 1) := by decide +kernel
theorem dX10_judge_18 : decode cX10_judge 18 = .ok (.getfield 54, 3) := by decide +kernel
theorem dX10_judge_21 : decode cX10_judge 21 = .ok (.bipush 100, 2) := by decide +kernel
theorem dX10_judge_23 : decode cX10_judge 23 = .ok (.aload_n 0, 1) := by decide +kernel
theorem dX10_judge_24 : decode cX10_judge 24 = .ok (.getfield 26, 3) := by decide +kernel
theorem dX10_judge_27 : decode cX10_judge 27 = .ok (.getfield 181, 3) := by decide +kernel
theorem dX10_judge_30 : decode cX10_judge 30 = .ok (.invokevirtual 282, 3) := by decide +kernel
theorem dX10_judge_33 : decode cX10_judge 33 = .ok (.aload_n 0, 1) := by decide +kernel
theorem dX10_judge_34 : decode cX10_judge 34 = .ok (.getfield 54, 3) := by decide +kernel
theorem dX10_judge_37 : decode cX10_judge 37 = .ok (.bipush 101, 2) := by decide +kernel
theorem dX10_judge_39 : decode cX10_judge 39 = .ok (.aload_n 0, 1) := by decide +kernel
theorem dX10_judge_40 : decode cX10_judge 40 = .ok (.getfield 26, 3) := by decide +kernel
theorem dX10_judge_43 : decode cX10_judge 43 = .ok (.getfield 178, 3) := by decide +kernel
theorem dX10_judge_46 : decode cX10_judge 46 = .ok (.invokevirtual 282, 3) := by decide +kernel
theorem dX10_judge_49 : decode cX10_judge 49 = .ok (.aload_n 0, 1) := by decide +kernel
theorem dX10_judge_50 : decode cX10_judge 50 = .ok (.getfield 54, 3) := by decide +kernel
theorem dX10_judge_53 : decode cX10_judge 53 = .ok (.bipush 102, 2) := by decide +kernel
theorem dX10_judge_55 : decode cX10_judge 55 = .ok (.iload_n 2, 1) := by decide +kernel
theorem dX10_judge_56 : decode cX10_judge 56 = .ok (.invokevirtual 282, 3) := by decide +kernel
theorem dX10_judge_59 : decode cX10_judge 59 = .ok (.aload_n 0, 1) := by decide +kernel
theorem dX10_judge_60 : decode cX10_judge 60 = .ok (.getfield 54, 3) := by decide +kernel
theorem dX10_judge_63 : decode cX10_judge 63 = .ok (.bipush 103, 2) := by decide +kernel
theorem dX10_judge_65 : decode cX10_judge 65 = .ok (.aload_n 0, 1) := by decide +kernel
theorem dX10_judge_66 : decode cX10_judge 66 = .ok (.getfield 10, 3) := by decide +kernel
theorem dX10_judge_69 : decode cX10_judge 69 = .ok (.iload_n 1, 1) := by decide +kernel
theorem dX10_judge_70 : decode cX10_judge 70 = .ok (.invokevirtual 137, 3) := by decide +kernel
theorem dX10_judge_73 : decode cX10_judge 73 = .ok (.invokevirtual 282, 3) := by decide +kernel
theorem dX10_judge_76 : decode cX10_judge 76 = .ok (.aload_n 0, 1) := by decide +kernel
theorem dX10_judge_77 : decode cX10_judge 77 = .ok (.getfield 54, 3) := by decide +kernel
theorem dX10_judge_80 : decode cX10_judge 80 = .ok (.bipush 104, 2) := by decide +kernel
theorem dX10_judge_82 : decode cX10_judge 82 = .ok (.aload_n 0, 1) := by decide +kernel
theorem dX10_judge_83 : decode cX10_judge 83 = .ok (.getfield 10, 3) := by decide +kernel
theorem dX10_judge_86 : decode cX10_judge 86 = .ok (.iload_n 1, 1) := by decide +kernel
theorem dX10_judge_87 : decode cX10_judge 87 = .ok (.invokevirtual 156, 3) := by decide +kernel
theorem dX10_judge_90 : decode cX10_judge 90 = .ok (.invokestatic 159, 3) := by decide +kernel
theorem dX10_judge_93 : decode cX10_judge 93 = .ok (.invokevirtual 282, 3) := by decide +kernel
theorem dX10_judge_96 : decode cX10_judge 96 = .ok (.aload_n 0, 1) := by decide +kernel
theorem dX10_judge_97 : decode cX10_judge 97 = .ok (.getfield 54, 3) := by decide +kernel
theorem dX10_judge_100 : decode cX10_judge 100 = .ok (.bipush 105, 2) := by decide +kernel
theorem dX10_judge_102 : decode cX10_judge 102 = .ok (.aload_n 0, 1) := by decide +kernel
theorem dX10_judge_103 : decode cX10_judge 103 = .ok (.getfield 26, 3) := by decide +kernel
theorem dX10_judge_106 : decode cX10_judge 106 = .ok (.getfield 285, 3) := by decide +kernel
theorem dX10_judge_109 : decode cX10_judge 109 = .ok (.invokevirtual 282, 3) := by decide +kernel
theorem dX10_judge_112 : decode cX10_judge 112 = .ok (.aload_n 0, 1) := by decide +kernel
theorem dX10_judge_113 : decode cX10_judge 113 = .ok (.getfield 54, 3) := by decide +kernel
theorem dX10_judge_116 : decode cX10_judge 116 = .ok (.bipush 106, 2) := by decide +kernel
theorem dX10_judge_118 : decode cX10_judge 118 = .ok (.aload_n 0, 1) := by decide +kernel
theorem dX10_judge_119 : decode cX10_judge 119 = .ok (.iload_n 2, 1) := by decide +kernel
theorem dX10_judge_120 : decode cX10_judge 120 = .ok (.invokevirtual 239, 3) := by decide +kernel
theorem dX10_judge_123 : decode cX10_judge 123 = .ok (.invokevirtual 282, 3) := by decide +kernel
theorem dX10_judge_126 : decode cX10_judge 126 = .ok (.aload_n 0, 1) := by decide +kernel
theorem dX10_judge_127 : decode cX10_judge 127 = .ok (.getfield 54, 3) := by decide +kernel
theorem dX10_judge_130 : decode cX10_judge 130 = .ok (.bipush 107, 2) := by decide +kernel
theorem dX10_judge_132 : decode cX10_judge 132 = .ok (.aload_n 0, 1) := by decide +kernel
theorem dX10_judge_133 : decode cX10_judge 133 = .ok (.getfield 33, 3) := by decide +kernel
theorem dX10_judge_136 : decode cX10_judge 136 = .ok (.iload_n 1, 1) := by decide +kernel
theorem dX10_judge_137 : decode cX10_judge 137 = .ok (.invokevirtual 217, 3) := by decide +kernel
theorem dX10_judge_140 : decode cX10_judge 140 = .ok (.invokevirtual 282, 3) := by decide +kernel
theorem dX10_judge_143 : decode cX10_judge 143 = .ok (.aload_n 0, 1) := by decide +kernel
theorem dX10_judge_144 : decode cX10_judge 144 = .ok (.getfield 54, 3) := by decide +kernel
theorem dX10_judge_147 : decode cX10_judge 147 = .ok (.iload_n 2, 1) := by decide +kernel
theorem dX10_judge_148 : decode cX10_judge 148 = .ok (.invokevirtual 288, 3) := by decide +kernel
theorem dX10_judge_151 : decode cX10_judge 151 = .ok (.return_, 1) := by decide +kernel
theorem dX10_countRivals_0 : decode cX10_countRivals 0 = .ok (.aload_n 0, 1) := by decide +kernel
theorem dX10_countRivals_1 : decode cX10_countRivals 1 = .ok (.getfield 26, 3) := by decide +kernel
theorem dX10_countRivals_4 : decode cX10_countRivals 4 = .ok (.getfield 172, 3) := by decide +kernel
theorem dX10_countRivals_7 : decode cX10_countRivals 7 = .ok (.iconst (-1), 1) := by decide +kernel
theorem dX10_countRivals_8 : decode cX10_countRivals 8 = .ok (.if_icmp .ne 5, 3) := by decide +kernel
theorem dX10_countRivals_11 : decode cX10_countRivals 11 = .ok (.iconst 0, 1) := by decide +kernel
theorem dX10_countRivals_12 : decode cX10_countRivals 12 = .ok (.ireturn, 1) := by decide +kernel
theorem dX10_countRivals_13 : decode cX10_countRivals 13 = .ok (.iconst 0, 1) := by decide +kernel
theorem dX10_countRivals_14 : decode cX10_countRivals 14 = .ok (.istore_n 2, 1) := by decide +kernel
theorem dX10_countRivals_15 : decode cX10_countRivals 15 = .ok (.iconst 0, 1) := by decide +kernel
theorem dX10_countRivals_16 : decode cX10_countRivals 16 = .ok (.istore_n 3, 1) := by decide +kernel
theorem dX10_countRivals_17 : decode cX10_countRivals 17 = .ok (.iload_n 3, 1) := by decide +kernel
theorem dX10_countRivals_18 : decode cX10_countRivals 18 = .ok (.aload_n 0, 1) := by decide +kernel
theorem dX10_countRivals_19 : decode cX10_countRivals 19 = .ok (.getfield 10, 3) := by decide +kernel
theorem dX10_countRivals_22 : decode cX10_countRivals 22 = .ok (.getfield 245, 3) := by decide +kernel
theorem dX10_countRivals_25 : decode cX10_countRivals 25 = .ok (.if_icmp .ge 42, 3) := by decide +kernel
theorem dX10_countRivals_28 : decode cX10_countRivals 28 = .ok (.iload_n 3, 1) := by decide +kernel
theorem dX10_countRivals_29 : decode cX10_countRivals 29 = .ok (.aload_n 0, 1) := by decide +kernel
theorem dX10_countRivals_30 : decode cX10_countRivals 30 = .ok (.getfield 26, 3) := by decide +kernel
theorem dX10_countRivals_33 : decode cX10_countRivals 33 = .ok (.getfield 175, 3) := by decide +kernel
theorem dX10_countRivals_36 : decode cX10_countRivals 36 = .ok (.if_icmp .eq 25, 3) := by decide +kernel
theorem dX10_countRivals_39 : decode cX10_countRivals 39 = .ok (.aload_n 0, 1) := by decide +kernel
theorem dX10_countRivals_40 : decode cX10_countRivals 40 = .ok (.getfield 19, 3) := by decide +kernel
theorem dX10_countRivals_43 : decode cX10_countRivals 43 = .ok (.iload_n 3, 1) := by decide +kernel
theorem dX10_countRivals_44 : decode cX10_countRivals 44 = .ok (.iload_n 1, 1) := by decide +kernel
theorem dX10_countRivals_45 : decode cX10_countRivals 45 = .ok (.invokevirtual 290, 3) := by decide +kernel
theorem dX10_countRivals_48 : decode cX10_countRivals 48 = .ok (.aload_n 0, 1) := by decide +kernel
theorem dX10_countRivals_49 : decode cX10_countRivals 49 = .ok (.getfield 26, 3) := by decide +kernel
theorem dX10_countRivals_52 : decode cX10_countRivals 52 = .ok (.getfield 172, 3) := by decide +kernel
theorem dX10_countRivals_55 : decode cX10_countRivals 55 = .ok (.if_icmp .ne 6, 3) := by decide +kernel
theorem dX10_countRivals_58 : decode cX10_countRivals 58 = .ok (.iinc 2 1, 3) := by decide +kernel
theorem dX10_countRivals_61 : decode cX10_countRivals 61 = .ok (.iinc 3 1, 3) := by decide +kernel
theorem dX10_countRivals_64 : decode cX10_countRivals 64 = .ok (.goto (-47), 3) := by decide +kernel
theorem dX10_countRivals_67 : decode cX10_countRivals 67 = .ok (.iload_n 2, 1) := by decide +kernel
theorem dX10_countRivals_68 : decode cX10_countRivals 68 = .ok (.ireturn, 1) := by decide +kernel
theorem dX10_isYear_0 : decode cX10_isYear 0 = .ok (.iload_n 0, 1) := by decide +kernel
theorem dX10_isYear_1 : decode cX10_isYear 1 = .ok (.sipush 1000, 3) := by decide +kernel
theorem dX10_isYear_4 : decode cX10_isYear 4 = .ok (.if_icmp .lt 14, 3) := by decide +kernel
theorem dX10_isYear_7 : decode cX10_isYear 7 = .ok (.iload_n 0, 1) := by decide +kernel
theorem dX10_isYear_8 : decode cX10_isYear 8 = .ok (.sipush 2000, 3) := by decide +kernel
theorem dX10_isYear_11 : decode cX10_isYear 11 = .ok (.if_icmp .gt 7, 3) := by decide +kernel
theorem dX10_isYear_14 : decode cX10_isYear 14 = .ok (.iconst 1, 1) := by decide +kernel
theorem dX10_isYear_15 : decode cX10_isYear 15 = .ok (.goto 4, 3) := by decide +kernel
theorem dX10_isYear_18 : decode cX10_isYear 18 = .ok (.iconst 0, 1) := by decide +kernel
theorem dX10_isYear_19 : decode cX10_isYear 19 = .ok (.ireturn, 1) := by decide +kernel
theorem dX10_asInt_0 : decode cX10_asInt 0 = .ok (.iload_n 0, 1) := by decide +kernel
theorem dX10_asInt_1 : decode cX10_asInt 1 = .ok (.ifCond .eq 7, 3) := by decide +kernel
theorem dX10_asInt_4 : decode cX10_asInt 4 = .ok (.iconst 1, 1) := by decide +kernel
theorem dX10_asInt_5 : decode cX10_asInt 5 = .ok (.goto 4, 3) := by decide +kernel
theorem dX10_asInt_8 : decode cX10_asInt 8 = .ok (.iconst 0, 1) := by decide +kernel
theorem dX10_asInt_9 : decode cX10_asInt 9 = .ok (.ireturn, 1) := by decide +kernel
end
section
theorem dX11_init_0 : decode cX11_init 0 = .ok (.aload_n 0, 1) := by decide +kernel
theorem dX11_init_1 : decode cX11_init 1 = .ok (.invokespecial 1, 3) := by decide +kernel
theorem dX11_init_4 : decode cX11_init 4 = .ok (.aload_n 0, 1) := by decide +kernel
theorem dX11_init_5 : decode cX11_init 5 = .ok (.bipush 8, 2) := by decide +kernel
theorem dX11_init_7 : decode cX11_init 7 = .ok (.anewarray 7, 3) := by decide +kernel
theorem dX11_init_10 : decode cX11_init 10 = .ok (.dup, 1) := by decide +kernel
theorem dX11_init_11 : decode cX11_init 11 = .ok (.iconst 0, 1) := by decide +kernel
theorem dX11_init_12 : decode cX11_init 12 = .ok (.ldc 9, 2) := by decide +kernel
theorem dX11_init_14 : decode cX11_init 14 = .ok (.aastore, 1) := by decide +kernel
theorem dX11_init_15 : decode cX11_init 15 = .ok (.dup, 1) := by decide +kernel
theorem dX11_init_16 : decode cX11_init 16 = .ok (.iconst 1, 1) := by decide +kernel
theorem dX11_init_17 : decode cX11_init 17 = .ok (.ldc 11, 2) := by decide +kernel
theorem dX11_init_19 : decode cX11_init 19 = .ok (.aastore, 1) := by decide +kernel
theorem dX11_init_20 : decode cX11_init 20 = .ok (.dup, 1) := by decide +kernel
theorem dX11_init_21 : decode cX11_init 21 = .ok (.iconst 2, 1) := by decide +kernel
theorem dX11_init_22 : decode cX11_init 22 = .ok (.ldc 13, 2) := by decide +kernel
theorem dX11_init_24 : decode cX11_init 24 = .ok (.aastore, 1) := by decide +kernel
theorem dX11_init_25 : decode cX11_init 25 = .ok (.dup, 1) := by decide +kernel
theorem dX11_init_26 : decode cX11_init 26 = .ok (.iconst 3, 1) := by decide +kernel
theorem dX11_init_27 : decode cX11_init 27 = .ok (.ldc 15, 2) := by decide +kernel
theorem dX11_init_29 : decode cX11_init 29 = .ok (.aastore, 1) := by decide +kernel
theorem dX11_init_30 : decode cX11_init 30 = .ok (.dup, 1) := by decide +kernel
theorem dX11_init_31 : decode cX11_init 31 = .ok (.iconst 4, 1) := by decide +kernel
theorem dX11_init_32 : decode cX11_init 32 = .ok (.ldc 17, 2) := by decide +kernel
theorem dX11_init_34 : decode cX11_init 34 = .ok (.aastore, 1) := by decide +kernel
theorem dX11_init_35 : decode cX11_init 35 = .ok (.dup, 1) := by decide +kernel
theorem dX11_init_36 : decode cX11_init 36 = .ok (.iconst 5, 1) := by decide +kernel
theorem dX11_init_37 : decode cX11_init 37 = .ok (.ldc 19, 2) := by decide +kernel
theorem dX11_init_39 : decode cX11_init 39 = .ok (.aastore, 1) := by decide +kernel
theorem dX11_init_40 : decode cX11_init 40 = .ok (.dup, 1) := by decide +kernel
theorem dX11_init_41 : decode cX11_init 41 = .ok (.bipush 6, 2) := by decide +kernel
theorem dX11_init_43 : decode cX11_init 43 = .ok (.ldc 21, 2) := by decide +kernel
theorem dX11_init_45 : decode cX11_init 45 = .ok (.aastore, 1) := by decide +kernel
theorem dX11_init_46 : decode cX11_init 46 = .ok (.dup, 1) := by decide +kernel
theorem dX11_init_47 : decode cX11_init 47 = .ok (.bipush 7, 2) := by decide +kernel
theorem dX11_init_49 : decode cX11_init 49 = .ok (.ldc 23, 2) := by decide +kernel
theorem dX11_init_51 : decode cX11_init 51 = .ok (.aastore, 1) := by decide +kernel
theorem dX11_init_52 : decode cX11_init 52 = .ok (.putfield 25, 3) := by decide +kernel
theorem dX11_init_55 : decode cX11_init 55 = .ok (.aload_n 0, 1) := by decide +kernel
theorem dX11_init_56 : decode cX11_init 56 = .ok (.iconst (-1), 1) := by decide +kernel
theorem dX11_init_57 : decode cX11_init 57 = .ok (.putfield 31, 3) := by decide +kernel
theorem dX11_init_60 : decode cX11_init 60 = .ok (.aload_n 0, 1) := by decide +kernel
theorem dX11_init_61 : decode cX11_init 61 = .ok (.bipush 60, 2) := by decide +kernel
theorem dX11_init_63 : decode cX11_init 63 = .ok (.newarray .boolean, 2) := by decide +kernel
theorem dX11_init_65 : decode cX11_init 65 = .ok (.putfield 35, 3) := by decide +kernel
theorem dX11_init_68 : decode cX11_init 68 = .ok (.aload_n 0, 1) := by decide +kernel
theorem dX11_init_69 : decode cX11_init 69 = .ok (.bipush 60, 2) := by decide +kernel
theorem dX11_init_71 : decode cX11_init 71 = .ok (.newarray .int, 2) := by decide +kernel
theorem dX11_init_73 : decode cX11_init 73 = .ok (.putfield 39, 3) := by decide +kernel
theorem dX11_init_76 : decode cX11_init 76 = .ok (.aload_n 0, 1) := by decide +kernel
theorem dX11_init_77 : decode cX11_init 77 = .ok (.bipush 60, 2) := by decide +kernel
theorem dX11_init_79 : decode cX11_init 79 = .ok (.newarray .int, 2) := by decide +kernel
theorem dX11_init_81 : decode cX11_init 81 = .ok (.putfield 42, 3) := by decide +kernel
theorem dX11_init_84 : decode cX11_init 84 = .ok (.aload_n 0, 1) := by decide +kernel
theorem dX11_init_85 : decode cX11_init 85 = .ok (.bipush 60, 2) := by decide +kernel
theorem dX11_init_87 : decode cX11_init 87 = .ok (.newarray .int, 2) := by decide +kernel
theorem dX11_init_89 : decode cX11_init 89 = .ok (.putfield 45, 3) := by decide +kernel
theorem dX11_init_92 : decode cX11_init 92 = .ok (.aload_n 0, 1) := by decide +kernel
theorem dX11_init_93 : decode cX11_init 93 = .ok (.bipush 60, 2) := by decide +kernel
theorem dX11_init_95 : decode cX11_init 95 = .ok (.newarray .int, 2) := by decide +kernel
theorem dX11_init_97 : decode cX11_init 97 = .ok (.putfield 48, 3) := by decide +kernel
theorem dX11_init_100 : decode cX11_init 100 = .ok (.aload_n 0, 1) := by decide +kernel
theorem dX11_init_101 : decode cX11_init 101 = .ok (.bipush 60, 2) := by decide +kernel
theorem dX11_init_103 : decode cX11_init 103 = .ok (.newarray .int, 2) := by decide +kernel
theorem dX11_init_105 : decode cX11_init 105 = .ok (.putfield 51, 3) := by decide +kernel
theorem dX11_init_108 : decode cX11_init 108 = .ok (.aload_n 0, 1) := by decide +kernel
theorem dX11_init_109 : decode cX11_init 109 = .ok (.bipush 60, 2) := by decide +kernel
theorem dX11_init_111 : decode cX11_init 111 = .ok (.newarray .int, 2) := by decide +kernel
theorem dX11_init_113 : decode cX11_init 113 = .ok (.putfield 54, 3) := by decide +kernel
theorem dX11_init_116 : decode cX11_init 116 = .ok (.aload_n 0, 1) := by decide +kernel
theorem dX11_init_117 : decode cX11_init 117 = .ok (.bipush 40, 2) := by decide +kernel
theorem dX11_init_119 : decode cX11_init 119 = .ok (.newarray .int, 2) := by decide +kernel
theorem dX11_init_121 : decode cX11_init 121 = .ok (.putfield 57, 3) := by decide +kernel
theorem dX11_init_124 : decode cX11_init 124 = .ok (.aload_n 0, 1) := by decide +kernel
theorem dX11_init_125 : decode cX11_init 125 = .ok (.bipush 40, 2) := by decide +kernel
theorem dX11_init_127 : decode cX11_init 127 = .ok (.newarray .int, 2) := by decide +kernel
theorem dX11_init_129 : decode cX11_init 129 = .ok (.putfield 60, 3) := by decide +kernel
theorem dX11_init_132 : decode cX11_init 132 = .ok (.aload_n 0, 1) := by decide +kernel
theorem dX11_init_133 : decode cX11_init 133 = .ok (.bipush 40, 2) := by decide +kernel
theorem dX11_init_135 : decode cX11_init 135 = .ok (.newarray .int, 2) := by decide +kernel
theorem dX11_init_137 : decode cX11_init 137 = .ok (.putfield 63, 3) := by decide +kernel
theorem dX11_init_140 : decode cX11_init 140 = .ok (.aload_n 0, 1) := by decide +kernel
theorem dX11_init_141 : decode cX11_init 141 = .ok (.bipush 40, 2) := by decide +kernel
theorem dX11_init_143 : decode cX11_init 143 = .ok (.newarray .int, 2) := by decide +kernel
theorem dX11_init_145 : decode cX11_init 145 = .ok (.putfield 66, 3) := by decide +kernel
theorem dX11_init_148 : decode cX11_init 148 = .ok (.aload_n 0, 1) := by decide +kernel
theorem dX11_init_149 : decode cX11_init 149 = .ok (.bipush 40, 2) := by decide +kernel
theorem dX11_init_151 : decode cX11_init 151 = .ok (.newarray .int, 2) := by decide +kernel
theorem dX11_init_153 : decode cX11_init 153 = .ok (.putfield 69, 3) := by decide +kernel
theorem dX11_init_156 : decode cX11_init 156 = .ok (.aload_n 0, 1) := by decide +kernel
theorem dX11_init_157 : decode cX11_init 157 = .ok (.sipush 400, 3) := by decide +kernel
theorem dX11_init_160 : decode cX11_init 160 = .ok (.newarray .int, 2) := by decide +kernel
theorem dX11_init_162 : decode cX11_init 162 = .ok (.putfield 72, 3) := by decide +kernel
theorem dX11_init_165 : decode cX11_init 165 = .ok (.aload_n 0, 1) := by decide +kernel
theorem dX11_init_166 : decode cX11_init 166 = .ok (.bipush 6, 2) := by decide +kernel
theorem dX11_init_168 : decode cX11_init 168 = .ok (.newarray .int, 2) := by decide +kernel
theorem dX11_init_170 : decode cX11_init 170 = .ok (.putfield 75, 3) := by decide +kernel
theorem dX11_init_173 : decode cX11_init 173 = .ok (.aload_n 0, 1) := by decide +kernel
theorem dX11_init_174 : decode cX11_init 174 = .ok (.bipush 6, 2) := by decide +kernel
theorem dX11_init_176 : decode cX11_init 176 = .ok (.newarray .int, 2) := by decide +kernel
theorem dX11_init_178 : decode cX11_init 178 = .ok (.putfield 78, 3) := by decide +kernel
theorem dX11_init_181 : decode cX11_init 181 = .ok (.aload_n 0, 1) := by decide +kernel
theorem dX11_init_182 : decode cX11_init 182 = .ok (.bipush 78, 2) := by decide +kernel
theorem dX11_init_184 : decode cX11_init 184 = .ok (.newarray .int, 2) := by decide +kernel
theorem dX11_init_186 : decode cX11_init 186 = .ok (.putfield 81, 3) := by decide +kernel
theorem dX11_init_189 : decode cX11_init 189 = .ok (.aload_n 0, 1) := by decide +kernel
theorem dX11_init_190 : decode cX11_init 190 = .ok (.sipush 4200, 3) := by decide +kernel
theorem dX11_init_193 : decode cX11_init 193 = .ok (.newarray .int, 2) := by decide +kernel
theorem dX11_init_195 : decode cX11_init 195 = .ok (.putfield 84, 3) := by decide +kernel
theorem dX11_init_198 : decode cX11_init 198 = .ok (.aload_n 0, 1) := by decide +kernel
theorem dX11_init_199 : decode cX11_init 199 = .ok (.sipush 150, 3) := by decide +kernel
theorem dX11_init_202 : decode cX11_init 202 = .ok (.newarray .int, 2) := by decide +kernel
theorem dX11_init_204 : decode cX11_init 204 = .ok (.putfield 87, 3) := by decide +kernel
theorem dX11_init_207 : decode cX11_init 207 = .ok (.aload_n 0, 1) := by decide +kernel
theorem dX11_init_208 : decode cX11_init 208 = .ok (.bipush 72, 2) := by decide +kernel
theorem dX11_init_210 : decode cX11_init 210 = .ok (.newarray .int, 2) := by decide +kernel
theorem dX11_init_212 : decode cX11_init 212 = .ok (.putfield 90, 3) := by decide +kernel
theorem dX11_init_215 : decode cX11_init 215 = .ok (.aload_n 0, 1) := by decide +kernel
theorem dX11_init_216 : decode cX11_init 216 = .ok (.bipush 60, 2) := by decide +kernel
theorem dX11_init_218 : decode cX11_init 218 = .ok (.newarray .boolean, 2) := by decide +kernel
theorem dX11_init_220 : decode cX11_init 220 = .ok (.putfield 93, 3) := by decide +kernel
theorem dX11_init_223 : decode cX11_init 223 = .ok (.aload_n 0, 1) := by decide +kernel
theorem dX11_init_224 : decode cX11_init 224 = .ok (.bipush 60, 2) := by decide +kernel
theorem dX11_init_226 : decode cX11_init 226 = .ok (.newarray .int, 2) := by decide +kernel
theorem dX11_init_228 : decode cX11_init 228 = .ok (.putfield 96, 3) := by decide +kernel
theorem dX11_init_231 : decode cX11_init 231 = .ok (.aload_n 0, 1) := by decide +kernel
theorem dX11_init_232 : decode cX11_init 232 = .ok (.bipush 60, 2) := by decide +kernel
theorem dX11_init_234 : decode cX11_init 234 = .ok (.newarray .int, 2) := by decide +kernel
theorem dX11_init_236 : decode cX11_init 236 = .ok (.putfield 99, 3) := by decide +kernel
theorem dX11_init_239 : decode cX11_init 239 = .ok (.aload_n 0, 1) := by decide +kernel
theorem dX11_init_240 : decode cX11_init 240 = .ok (.sipush 720, 3) := by decide +kernel
theorem dX11_init_243 : decode cX11_init 243 = .ok (.newarray .int, 2) := by decide +kernel
theorem dX11_init_245 : decode cX11_init 245 = .ok (.putfield 102, 3) := by decide +kernel
theorem dX11_init_248 : decode cX11_init 248 = .ok (.aload_n 0, 1) := by decide +kernel
theorem dX11_init_249 : decode cX11_init 249 = .ok (.bipush 60, 2) := by decide +kernel
theorem dX11_init_251 : decode cX11_init 251 = .ok (.newarray .boolean, 2) := by decide +kernel
theorem dX11_init_253 : decode cX11_init 253 = .ok (.putfield 104, 3) := by decide +kernel
theorem dX11_init_256 : decode cX11_init 256 = .ok (.aload_n 0, 1) := by decide +kernel
theorem dX11_init_257 : decode cX11_init 257 = .ok (.bipush 60, 2) := by decide +kernel
theorem dX11_init_259 : decode cX11_init 259 = .ok (.newarray .boolean, 2) := by decide +kernel
theorem dX11_init_261 : decode cX11_init 261 = .ok (.putfield 107, 3) := by decide +kernel
theorem dX11_init_264 : decode cX11_init 264 = .ok (.return_, 1) := by decide +kernel
theorem dX11_thrown_0 : decode cX11_thrown 0 = .ok (.aload_n 0, 1) := by decide +kernel
theorem dX11_thrown_1 : decode cX11_thrown 1 = .ok (.getfield 110, 3) := by decide +kernel
theorem dX11_thrown_4 : decode cX11_thrown 4 = .ok (.ireturn, 1) := by decide +kernel
theorem dX11_fail_0 : decode cX11_fail 0 = .ok (.aload_n 0, 1) := by decide +kernel
theorem dX11_fail_1 : decode cX11_fail 1 = .ok (.iconst 1, 1) := by decide +kernel
theorem dX11_fail_2 : decode cX11_fail 2 = .ok (.putfield 110, 3) := by decide +kernel
theorem dX11_fail_5 : decode cX11_fail 5 = .ok (.iconst 0, 1) := by decide +kernel
theorem dX11_fail_6 : decode cX11_fail 6 = .ok (.ireturn, 1) := by decide +kernel
theorem dX11_is_0 : decode cX11_is 0 = .ok (.iload_n 1, 1) := by decide +kernel
theorem dX11_is_1 : decode cX11_is 1 = .ok (.ifCond .lt 15, 3) := by decide +kernel
theorem dX11_is_4 : decode cX11_is 4 = .ok (.iload_n 1, 1) := by decide +kernel
theorem dX11_is_5 : decode cX11_is 5 = .ok (.aload_n 0, 1) := by decide +kernel
theorem dX11_is_6 : decode cX11_is 6 = .ok (.getfield 113, 3) := by decide +kernel
theorem dX11_is_9 : decode cX11_is 9 = .ok (.if_icmp .ge 7, 3) := by decide +kernel
theorem dX11_is_12 : decode cX11_is 12 = .ok (.iconst 1, 1) := by decide +kernel
theorem dX11_is_13 : decode cX11_is 13 = .ok (.goto 4, 3) := by decide +kernel
theorem dX11_is_16 : decode cX11_is 16 = .ok (.iconst 0, 1) := by decide +kernel
theorem dX11_is_17 : decode cX11_is 17 = .ok (.ireturn, 1) := by decide +kernel
theorem dX11_isYear_0 : decode cX11_isYear 0 = .ok (.iload_n 0, 1) := by decide +kernel
theorem dX11_isYear_1 : decode cX11_isYear 1 = .ok (.sipush 1000, 3) := by decide +kernel
theorem dX11_isYear_4 : decode cX11_isYear 4 = .ok (.if_icmp .lt 14, 3) := by decide +kernel
theorem dX11_isYear_7 : decode cX11_isYear 7 = .ok (.iload_n 0, 1) := by decide +kernel
theorem dX11_isYear_8 : decode cX11_isYear 8 = .ok (.sipush 2000, 3) := by decide +kernel
theorem dX11_isYear_11 : decode cX11_isYear 11 = .ok (.if_icmp .gt 7, 3) := by decide +kernel
theorem dX11_isYear_14 : decode cX11_isYear 14 = .ok (.iconst 1, 1) := by decide +kernel
theorem dX11_isYear_15 : decode cX11_isYear 15 = .ok (.goto 4, 3) := by decide +kernel
theorem dX11_isYear_18 : decode cX11_isYear 18 = .ok (.iconst 0, 1) := by decide +kernel
theorem dX11_isYear_19 : decode cX11_isYear 19 = .ok (.ireturn, 1) := by decide +kernel
theorem dX11_person_0 : decode cX11_person 0 = .ok (.aload_n 0, 1) := by decide +kernel
theorem dX11_person_1 : decode cX11_person 1 = .ok (.iconst 0, 1) := by decide +kernel
theorem dX11_person_2 : decode cX11_person 2 = .ok (.putfield 110, 3) := by decide +kernel
theorem dX11_person_5 : decode cX11_person 5 = .ok (.aload_n 0, 1) := by decide +kernel
theorem dX11_person_6 : decode cX11_person 6 = .ok (.getfield 113, 3) := by decide +kernel
theorem dX11_person_9 : decode cX11_person 9 = .ok (.bipush 60, 2) := by decide +kernel
theorem dX11_person_11 : decode cX11_person 11 = .ok (.if_icmp .eq 35, 3) := by decide +kernel
theorem dX11_person_14 : decode cX11_person 14 = .ok (.iload_n 2, 1) := by decide +kernel
theorem dX11_person_15 : decode cX11_person 15 = .ok (.invokestatic 116, 3) := by decide +kernel
theorem dX11_person_18 : decode cX11_person 18 = .ok (.ifCond .eq 28, 3) := by decide +kernel
theorem dX11_person_21 : decode cX11_person 21 = .ok (.iload_n 3, 1) := by decide +kernel
theorem dX11_person_22 : decode cX11_person 22 = .ok (.iconst (-1), 1) := by decide +kernel
theorem dX11_person_23 : decode cX11_person 23 = .ok (.if_icmp .eq 25, 3) := by decide +kernel
theorem dX11_person_26 : decode cX11_person 26 = .ok (.iload_n 3, 1) := by decide +kernel
theorem dX11_person_27 : decode cX11_person 27 = .ok (.invokestatic 116, 3) := by decide +kernel
theorem dX11_person_30 : decode cX11_person 30 = .ok (.ifCond .eq 16, 3) := by decide +kernel
theorem dX11_person_33 : decode cX11_person 33 = .ok (.iload_n 3, 1) := by decide +kernel
theorem dX11_person_34 : decode cX11_person 34 = .ok (.iload_n 2, 1) := by decide +kernel
theorem dX11_person_35 : decode cX11_person 35 = .ok (.if_icmp .lt 11, 3) := by decide +kernel
theorem dX11_person_38 : decode cX11_person 38 = .ok (.iload_n 3, 1) := by decide +kernel
theorem dX11_person_39 : decode cX11_person 39 = .ok (.iload_n 2, 1) := by decide +kernel
theorem dX11_person_40 : decode cX11_person 40 = .ok (.bipush 100, 2) := by decide +kernel
theorem dX11_person_42 : decode cX11_person 42 = .ok (.iadd, 1) := by decide +kernel
theorem dX11_person_43 : decode cX11_person 43 = .ok (.if_icmp .le 5, 3) := by decide +kernel
theorem dX11_person_46 : decode cX11_person 46 = .ok (.iconst (-1), 1) := by decide +kernel
theorem dX11_person_47 : decode cX11_person 47 = .ok (.ireturn, 1) := by decide +kernel
theorem dX11_person_48 : decode cX11_person 48 = .ok (.aload_n 0, 1) := by decide +kernel
theorem dX11_person_49 : decode cX11_person 49 = .ok (.getfield 35, 3) := by decide +kernel
theorem dX11_person_52 : decode cX11_person 52 = .ok (.aload_n 0, 1) := by decide +kernel
theorem dX11_person_53 : decode cX11_person 53 = .ok (.getfield 113, 3) := by decide +kernel
theorem dX11_person_56 : decode cX11_person 56 = .ok (.iload_n 1, 1) := by decide +kernel
theorem dX11_person_57 : decode cX11_person 57 = .ok (.bastore, 1) := by decide +kernel
theorem dX11_person_58 : decode cX11_person 58 = .ok (.aload_n 0, 1) := by decide +kernel
theorem dX11_person_59 : decode cX11_person 59 = .ok (.getfield 39, 3) := by decide +kernel
theorem dX11_person_62 : decode cX11_person 62 = .ok (.aload_n 0, 1) := by decide +kernel
theorem dX11_person_63 : decode cX11_person 63 = .ok (.getfield 113, 3) := by decide +kernel
theorem dX11_person_66 : decode cX11_person 66 = .ok (.iload_n 2, 1) := by decide +kernel
theorem dX11_person_67 : decode cX11_person 67 = .ok (.iastore, 1) := by decide +kernel
theorem dX11_person_68 : decode cX11_person 68 = .ok (.aload_n 0, 1) := by decide +kernel
theorem dX11_person_69 : decode cX11_person 69 = .ok (.getfield 42, 3) := by decide +kernel
theorem dX11_person_72 : decode cX11_person 72 = .ok (.aload_n 0, 1) := by decide +kernel
theorem dX11_person_73 : decode cX11_person 73 = .ok (.getfield 113, 3) := by decide +kernel
theorem dX11_person_76 : decode cX11_person 76 = .ok (.iload_n 3, 1) := by decide +kernel
theorem dX11_person_77 : decode cX11_person 77 = .ok (.iastore, 1) := by decide +kernel
theorem dX11_person_78 : decode cX11_person 78 = .ok (.aload_n 0, 1) := by decide +kernel
theorem dX11_person_79 : decode cX11_person 79 = .ok (.getfield 45, 3) := by decide +kernel
theorem dX11_person_82 : decode cX11_person 82 = .ok (.aload_n 0, 1) := by decide +kernel
theorem dX11_person_83 : decode cX11_person 83 = .ok (.getfield 113, 3) := by decide +kernel
theorem dX11_person_86 : decode cX11_person 86 = .ok (.iconst (-1), 1) := by decide +kernel
theorem dX11_person_87 : decode cX11_person 87 = .ok (.iastore, 1) := by decide +kernel
theorem dX11_person_88 : decode cX11_person 88 = .ok (.aload_n 0, 1) := by decide +kernel
theorem dX11_person_89 : decode cX11_person 89 = .ok (.getfield 48, 3) := by decide +kernel
theorem dX11_person_92 : decode cX11_person 92 = .ok (.aload_n 0, 1) := by decide +kernel
theorem dX11_person_93 : decode cX11_person 93 = .ok (.getfield 113, 3) := by decide +kernel
theorem dX11_person_96 : decode cX11_person 96 = .ok (.iconst (-1), 1) := by decide +kernel
theorem dX11_person_97 : decode cX11_person 97 = .ok (.iastore, 1) := by decide +kernel
theorem dX11_person_98 : decode cX11_person 98 = .ok (.aload_n 0, 1) := by decide +kernel
theorem dX11_person_99 : decode cX11_person 99 = .ok (.dup, 1) := by decide +kernel
theorem dX11_person_100 : decode cX11_person 100 = .ok (.getfield 113, 3) := by decide +kernel
theorem dX11_person_103 : decode cX11_person 103 = .ok (.iconst 1, 1) := by decide +kernel
theorem dX11_person_104 : decode cX11_person 104 = .ok (.iadd, 1) := by decide +kernel
theorem dX11_person_105 : decode cX11_person 105 = .ok (.putfield 113, 3) := by decide +kernel
theorem dX11_person_108 : decode cX11_person 108 = .ok (.aload_n 0, 1) := by decide +kernel
theorem dX11_person_109 : decode cX11_person 109 = .ok (.getfield 113, 3) := by decide +kernel
theorem dX11_person_112 : decode cX11_person 112 = .ok (.iconst 1, 1) := by decide +kernel
theorem dX11_person_113 : decode cX11_person 113 = .ok (.isub, 1) := by decide +kernel
theorem dX11_person_114 : decode cX11_person 114 = .ok (.ireturn, 1) := by decide +kernel
theorem dX11_end_0 : decode cX11_end 0 = .ok (.aload_n 0, 1) := by decide +kernel
theorem dX11_end_1 : decode cX11_end 1 = .ok (.getfield 42, 3) := by decide +kernel
theorem dX11_end_4 : decode cX11_end 4 = .ok (.iload_n 1, 1) := by decide +kernel
theorem dX11_end_5 : decode cX11_end 5 = .ok (.iaload, 1) := by decide +kernel
theorem dX11_end_6 : decode cX11_end 6 = .ok (.iconst (-1), 1) := by decide +kernel
theorem dX11_end_7 : decode cX11_end 7 = .ok (.if_icmp .ne 15, 3) := by decide +kernel
theorem dX11_end_10 : decode cX11_end 10 = .ok (.aload_n 0, 1) := by decide +kernel
theorem dX11_end_11 : decode cX11_end 11 = .ok (.getfield 39, 3) := by decide +kernel
theorem dX11_end_14 : decode cX11_end 14 = .ok (.iload_n 1, 1) := by decide +kernel
theorem dX11_end_15 : decode cX11_end 15 = .ok (.iaload, 1) := by decide +kernel
theorem dX11_end_16 : decode cX11_end 16 = .ok (.bipush 100, 2) := by decide +kernel
theorem dX11_end_18 : decode cX11_end 18 = .ok (.iadd, 1) := by decide +kernel
theorem dX11_end_19 : decode cX11_end 19 = .ok (.goto 9, 3) := by decide +kernel
theorem dX11_end_22 : decode cX11_end 22 = .ok (.aload_n 0, 1) := by decide +kernel
theorem dX11_end_23 : decode cX11_end 23 = .ok (.getfield 42, 3) := by decide +kernel
theorem dX11_end_26 : decode cX11_end 26 = .ok (.iload_n 1, 1) := by decide +kernel
theorem dX11_end_27 : decode cX11_end 27 = .ok (.iaload, 1) := by decide +kernel
theorem dX11_end_28 : decode cX11_end 28 = .ok (.ireturn, 1) := by decide +kernel
theorem dX11_lives_0 : decode cX11_lives 0 = .ok (.aload_n 0, 1) := by decide +kernel
theorem dX11_lives_1 : decode cX11_lives 1 = .ok (.getfield 39, 3) := by decide +kernel
theorem dX11_lives_4 : decode cX11_lives 4 = .ok (.iload_n 1, 1) := by decide +kernel
theorem dX11_lives_5 : decode cX11_lives 5 = .ok (.iaload, 1) := by decide +kernel
theorem dX11_lives_6 : decode cX11_lives 6 = .ok (.iload_n 2, 1) := by decide +kernel
theorem dX11_lives_7 : decode cX11_lives 7 = .ok (.if_icmp .gt 16, 3) := by decide +kernel
theorem dX11_lives_10 : decode cX11_lives 10 = .ok (.iload_n 2, 1) := by decide +kernel
theorem dX11_lives_11 : decode cX11_lives 11 = .ok (.aload_n 0, 1) := by decide +kernel
theorem dX11_lives_12 : decode cX11_lives 12 = .ok (.iload_n 1, 1) := by decide +kernel
theorem dX11_lives_13 : decode cX11_lives 13 = .ok (.invokevirtual 120, 3) := by decide +kernel
theorem dX11_lives_16 : decode cX11_lives 16 = .ok (.if_icmp .gt 7, 3) := by decide +kernel
theorem dX11_lives_19 : decode cX11_lives 19 = .ok (.iconst 1, 1) := by decide +kernel
theorem dX11_lives_20 : decode cX11_lives 20 = .ok (.goto 4, 3) := by decide +kernel
theorem dX11_lives_23 : decode cX11_lives 23 = .ok (.iconst 0, 1) := by decide +kernel
theorem dX11_lives_24 : decode cX11_lives 24 = .ok (.ireturn, 1) := by decide +kernel
theorem dX11_parent_0 : decode cX11_parent 0 = .ok (.aload_n 0, 1) := by decide +kernel
theorem dX11_parent_1 : decode cX11_parent 1 = .ok (.iconst 0, 1) := by decide +kernel
theorem dX11_parent_2 : decode cX11_parent 2 = .ok (.putfield 110, 3) := by decide +kernel
theorem dX11_parent_5 : decode cX11_parent 5 = .ok (.aload_n 0, 1) := by decide +kernel
theorem dX11_parent_6 : decode cX11_parent 6 = .ok (.iload_n 1, 1) := by decide +kernel
theorem dX11_parent_7 : decode cX11_parent 7 = .ok (.invokevirtual 124, 3) := by decide +kernel
theorem dX11_parent_10 : decode cX11_parent 10 = .ok (.ifCond .eq 20, 3) := by decide +kernel
theorem dX11_parent_13 : decode cX11_parent 13 = .ok (.aload_n 0, 1) := by decide +kernel
theorem dX11_parent_14 : decode cX11_parent 14 = .ok (.iload_n 3, 1) := by decide +kernel
theorem dX11_parent_15 : decode cX11_parent 15 = .ok (.invokevirtual 124, 3) := by decide +kernel
theorem dX11_parent_18 : decode cX11_parent 18 = .ok (.ifCond .eq 12, 3) := by decide +kernel
theorem dX11_parent_21 : decode cX11_parent 21 = .ok (.iload_n 2, 1) := by decide +kernel
theorem dX11_parent_22 : decode cX11_parent 22 = .ok (.ifCond .lt 8, 3) := by decide +kernel
theorem dX11_parent_25 : decode cX11_parent 25 = .ok (.iload_n 2, 1) := by decide +kernel
theorem dX11_parent_26 : decode cX11_parent 26 = .ok (.iconst 1, 1) := by decide +kernel
theorem dX11_parent_27 : decode cX11_parent 27 = .ok (.if_icmp .le 10, 3) := by decide +kernel
theorem dX11_parent_30 : decode cX11_parent 30 = .ok (.aload_n 0, 1) := by decide +kernel
theorem dX11_parent_31 : decode cX11_parent 31 = .ok (.invokevirtual 127, 3) := by decide +kernel
theorem dX11_parent_34 : decode cX11_parent 34 = .ok (.pop, 1) := by decide +kernel
theorem dX11_parent_35 : decode cX11_parent 35 = .ok (.iconst 0, 1) := by decide +kernel
theorem dX11_parent_36 : decode cX11_parent 36 = .ok (.ireturn, 1) := by decide +kernel
theorem dX11_parent_37 : decode cX11_parent 37 = .ok (.aload_n 0, 1) := by decide +kernel
theorem dX11_parent_38 : decode cX11_parent 38 = .ok (.getfield 39, 3) := by decide +kernel
theorem dX11_parent_41 : decode cX11_parent 41 = .ok (.iload_n 1, 1) := by decide +kernel
theorem dX11_parent_42 : decode cX11_parent 42 = .ok (.iaload, 1) := by decide +kernel
theorem dX11_parent_43 : decode cX11_parent 43 = .ok (.aload_n 0, 1) := by decide +kernel
theorem dX11_parent_44 : decode cX11_parent 44 = .ok (.getfield 39, 3) := by decide +kernel
theorem dX11_parent_47 : decode cX11_parent 47 = .ok (.iload_n 3, 1) := by decide +kernel
theorem dX11_parent_48 : decode cX11_parent 48 = .ok (.iaload, 1) := by decide +kernel
theorem dX11_parent_49 : decode cX11_parent 49 = .ok (.isub, 1) := by decide +kernel
theorem dX11_parent_50 : decode cX11_parent 50 = .ok (.istore 5, 2) := by decide +kernel
theorem dX11_parent_52 : decode cX11_parent 52 = .ok (.iload 4, 2) := by decide +kernel
theorem dX11_parent_54 : decode cX11_parent 54 = .ok (.iconst 1, 1) := by decide +kernel
theorem dX11_parent_55 : decode cX11_parent 55 = .ok (.if_icmp .lt 19, 3) := by decide +kernel
theorem dX11_parent_58 : decode cX11_parent 58 = .ok (.iload 4, 2) := by decide +kernel
theorem dX11_parent_60 : decode cX11_parent 60 = .ok (.bipush 9, 2) := by decide +kernel
theorem dX11_parent_62 : decode cX11_parent 62 = .ok (.if_icmp .gt 12, 3) := by decide +kernel
theorem dX11_parent_65 : decode cX11_parent 65 = .ok (.iload_n 3, 1) := by decide +kernel
theorem dX11_parent_66 : decode cX11_parent 66 = .ok (.iload_n 1, 1) := by decide +kernel
theorem dX11_parent_67 : decode cX11_parent 67 = .ok (.if_icmp .ge 7, 3) := by decide +kernel
theorem dX11_parent_70 : decode cX11_parent 70 = .ok (.iconst 1, 1) := by decide +kernel
theorem dX11_parent_71 : decode cX11_parent 71 = .ok (.goto 4, 3) := by decide +kernel
theorem dX11_parent_74 : decode cX11_parent 74 = .ok (.iconst 0, 1) := by decide +kernel
theorem dX11_parent_75 : decode cX11_parent 75 = .ok (.istore 6, 2) := by decide +kernel
theorem dX11_parent_77 : decode cX11_parent 77 = .ok (.iload_n 2, 1) := by decide +kernel
theorem dX11_parent_78 : decode cX11_parent 78 = .ok (.ifCond .ne 60, 3) := by decide +kernel
theorem dX11_parent_81 : decode cX11_parent 81 = .ok (.iload 6, 2) := by decide +kernel
theorem dX11_parent_83 : decode cX11_parent 83 = .ok (.ifCond .eq 49, 3) := by decide +kernel
theorem dX11_parent_86 : decode cX11_parent 86 = .ok (.aload_n 0, 1) := by decide +kernel
theorem dX11_parent_87 : decode cX11_parent 87 = .ok (.getfield 45, 3) := by decide +kernel
theorem dX11_parent_90 : decode cX11_parent 90 = .ok (.iload_n 1, 1) := by decide +kernel
theorem dX11_parent_91 : decode cX11_parent 91 = .ok (.iaload, 1) := by decide +kernel
theorem dX11_parent_92 : decode cX11_parent 92 = .ok (.iconst (-1), 1) := by decide +kernel
theorem dX11_parent_93 : decode cX11_parent 93 = .ok (.if_icmp .ne 39, 3) := by decide +kernel
theorem dX11_parent_96 : decode cX11_parent 96 = .ok (.aload_n 0, 1) := by decide +kernel
theorem dX11_parent_97 : decode cX11_parent 97 = .ok (.getfield 35, 3) := by decide +kernel
theorem dX11_parent_100 : decode cX11_parent 100 = .ok (.iload_n 3, 1) := by decide +kernel
theorem dX11_parent_101 : decode cX11_parent 101 = .ok (.baload, 1) := by decide +kernel
theorem dX11_parent_102 : decode cX11_parent 102 = .ok (.ifCond .ne 30, 3) := by decide +kernel
theorem dX11_parent_105 : decode cX11_parent 105 = .ok (.iload 5, 2) := by decide +kernel
theorem dX11_parent_107 : decode cX11_parent 107 = .ok (.bipush 14, 2) := by decide +kernel
theorem dX11_parent_109 : decode cX11_parent 109 = .ok (.if_icmp .lt 23, 3) := by decide +kernel
theorem dX11_parent_112 : decode cX11_parent 112 = .ok (.aload_n 0, 1) := by decide +kernel
theorem dX11_parent_113 : decode cX11_parent 113 = .ok (.iload_n 3, 1) := by decide +kernel
theorem dX11_parent_114 : decode cX11_parent 114 = .ok (.invokevirtual 120, 3) := by decide +kernel
theorem dX11_parent_117 : decode cX11_parent 117 = .ok (.aload_n 0, 1) := by decide +kernel
theorem dX11_parent_118 : decode cX11_parent 118 = .ok (.getfield 39, 3) := by decide +kernel
theorem dX11_parent_121 : decode cX11_parent 121 = .ok (.iload_n 1, 1) := by decide +kernel
theorem dX11_parent_122 : decode cX11_parent 122 = .ok (.iaload, 1) := by decide +kernel
theorem dX11_parent_123 : decode cX11_parent 123 = .ok (.iconst 1, 1) := by decide +kernel
theorem dX11_parent_124 : decode cX11_parent 124 = .ok (.isub, 1) := by decide +kernel
theorem dX11_parent_125 : decode cX11_parent 125 = .ok (.if_icmp .lt 7, 3) := by decide +kernel
theorem dX11_parent_128 : decode cX11_parent 128 = .ok (.iconst 1, 1) := by decide +kernel
theorem dX11_parent_129 : decode cX11_parent 129 = .ok (.goto 4, 3) := by decide +kernel
theorem dX11_parent_132 : decode cX11_parent 132 = .ok (.iconst 0, 1) := by decide +kernel
theorem dX11_parent_133 : decode cX11_parent 133 = .ok (.istore 6, 2) := by decide +kernel
theorem dX11_parent_135 : decode cX11_parent 135 = .ok (.goto 62, 3) := by decide +kernel
theorem dX11_parent_138 : decode cX11_parent 138 = .ok (.iload 6, 2) := by decide +kernel
theorem dX11_parent_140 : decode cX11_parent 140 = .ok (.ifCond .eq 54, 3) := by decide +kernel
theorem dX11_parent_143 : decode cX11_parent 143 = .ok (.aload_n 0, 1) := by decide +kernel
theorem dX11_parent_144 : decode cX11_parent 144 = .ok (.getfield 48, 3) := by decide +kernel
theorem dX11_parent_147 : decode cX11_parent 147 = .ok (.iload_n 1, 1) := by decide +kernel
theorem dX11_parent_148 : decode cX11_parent 148 = .ok (.iaload, 1) := by decide +kernel
theorem dX11_parent_149 : decode cX11_parent 149 = .ok (.iconst (-1), 1) := by decide +kernel
theorem dX11_parent_150 : decode cX11_parent 150 = .ok (.if_icmp .ne 44, 3) := by decide +kernel
theorem dX11_parent_153 : decode cX11_parent 153 = .ok (.aload_n 0, 1) := by decide +kernel
theorem dX11_parent_154 : decode cX11_parent 154 = .ok (.getfield 35, 3) := by decide +kernel
theorem dX11_parent_157 : decode cX11_parent 157 = .ok (.iload_n 3, 1) := by decide +kernel
theorem dX11_parent_158 : decode cX11_parent 158 = .ok (.baload, 1) := by decide +kernel
theorem dX11_parent_159 : decode cX11_parent 159 = .ok (.ifCond .eq 35, 3) := by decide +kernel
theorem dX11_parent_162 : decode cX11_parent 162 = .ok (.iload 5, 2) := by decide +kernel
theorem dX11_parent_164 : decode cX11_parent 164 = .ok (.bipush 14, 2) := by decide +kernel
theorem dX11_parent_166 : decode cX11_parent 166 = .ok (.if_icmp .lt 28, 3) := by decide +kernel
theorem dX11_parent_169 : decode cX11_parent 169 = .ok (.iload 5, 2) := by decide +kernel
theorem dX11_parent_171 : decode cX11_parent 171 = .ok (.bipush 50, 2) := by decide +kernel
theorem dX11_parent_173 : decode cX11_parent 173 = .ok (.if_icmp .gt 21, 3) := by decide +kernel
theorem dX11_parent_176 : decode cX11_parent 176 = .ok (.aload_n 0, 1) := by decide +kernel
theorem dX11_parent_177 : decode cX11_parent 177 = .ok (.iload_n 3, 1) := by decide +kernel
theorem dX11_parent_178 : decode cX11_parent 178 = .ok (.aload_n 0, 1) := by decide +kernel
theorem dX11_parent_179 : decode cX11_parent 179 = .ok (.getfield 39, 3) := by decide +kernel
theorem dX11_parent_182 : decode cX11_parent 182 = .ok (.iload_n 1, 1) := by decide +kernel
theorem dX11_parent_183 : decode cX11_parent 183 = .ok (.iaload, 1) := by decide +kernel
theorem dX11_parent_184 : decode cX11_parent 184 = .ok (.invokevirtual 131, 3) := by decide +kernel
theorem dX11_parent_187 : decode cX11_parent 187 = .ok (.ifCond .eq 7, 3) := by decide +kernel
theorem dX11_parent_190 : decode cX11_parent 190 = .ok (.iconst 1, 1) := by decide +kernel
theorem dX11_parent_191 : decode cX11_parent 191 = .ok (.goto 4, 3) := by decide +kernel
theorem dX11_parent_194 : decode cX11_parent 194 = .ok (.iconst 0, 1) := by decide +kernel
theorem dX11_parent_195 : decode cX11_parent 195 = .ok (.istore 6, 2) := by decide +kernel
theorem dX11_parent_197 : decode cX11_parent 197 = .ok (.iload 6, 2) := by decide +kernel
theorem dX11_parent_199 : decode cX11_parent 199 = .ok (.ifCond .ne 5, 3) := by decide +kernel
theorem dX11_parent_202 : decode cX11_parent 202 = .ok (.iconst 0, 1) := by decide +kernel
theorem dX11_parent_203 : decode cX11_parent 203 = .ok (.ireturn, 1) := by decide +kernel
theorem dX11_parent_204 : decode cX11_parent 204 = .ok (.iload_n 2, 1) := by decide +kernel
theorem dX11_parent_205 : decode cX11_parent 205 = .ok (.ifCond .ne 21, 3) := by decide +kernel
theorem dX11_parent_208 : decode cX11_parent 208 = .ok (.aload_n 0, 1) := by decide +kernel
theorem dX11_parent_209 : decode cX11_parent 209 = .ok (.getfield 45, 3) := by decide +kernel
theorem dX11_parent_212 : decode cX11_parent 212 = .ok (.iload_n 1, 1) := by decide +kernel
theorem dX11_parent_213 : decode cX11_parent 213 = .ok (.iload_n 3, 1) := by decide +kernel
theorem dX11_parent_214 : decode cX11_parent 214 = .ok (.iastore, 1) := by decide +kernel
theorem dX11_parent_215 : decode cX11_parent 215 = .ok (.aload_n 0, 1) := by decide +kernel
theorem dX11_parent_216 : decode cX11_parent 216 = .ok (.getfield 51, 3) := by decide +kernel
theorem dX11_parent_219 : decode cX11_parent 219 = .ok (.iload_n 1, 1) := by decide +kernel
theorem dX11_parent_220 : decode cX11_parent 220 = .ok (.iload 4, 2) := by decide +kernel
theorem dX11_parent_222 : decode cX11_parent 222 = .ok (.iastore, 1) := by decide +kernel
theorem dX11_parent_223 : decode cX11_parent 223 = .ok (.goto 18, 3) := by decide +kernel
theorem dX11_parent_226 : decode cX11_parent 226 = .ok (.aload_n 0, 1) := by decide +kernel
theorem dX11_parent_227 : decode cX11_parent 227 = .ok (.getfield 48, 3) := by decide +kernel
theorem dX11_parent_230 : decode cX11_parent 230 = .ok (.iload_n 1, 1) := by decide +kernel
theorem dX11_parent_231 : decode cX11_parent 231 = .ok (.iload_n 3, 1) := by decide +kernel
theorem dX11_parent_232 : decode cX11_parent 232 = .ok (.iastore, 1) := by decide +kernel
theorem dX11_parent_233 : decode cX11_parent 233 = .ok (.aload_n 0, 1) := by decide +kernel
theorem dX11_parent_234 : decode cX11_parent 234 = .ok (.getfield 54, 3) := by decide +kernel
theorem dX11_parent_237 : decode cX11_parent 237 = .ok (.iload_n 1, 1) := by decide +kernel
theorem dX11_parent_238 : decode cX11_parent 238 = .ok (.iload 4, 2) := by decide +kernel
theorem dX11_parent_240 : decode cX11_parent 240 = .ok (.iastore, 1) := by decide +kernel
theorem dX11_parent_241 : decode cX11_parent 241 = .ok (.iconst 1, 1) := by decide +kernel
theorem dX11_parent_242 : decode cX11_parent 242 = .ok (.ireturn, 1) := by decide +kernel
theorem dX11_grant_0 : decode cX11_grant 0 = .ok (.aload_n 0, 1) := by decide +kernel
theorem dX11_grant_1 : decode cX11_grant 1 = .ok (.iconst 0, 1) := by decide +kernel
theorem dX11_grant_2 : decode cX11_grant 2 = .ok (.putfield 110, 3) := by decide +kernel
theorem dX11_grant_5 : decode cX11_grant 5 = .ok (.aload_n 0, 1) := by decide +kernel
theorem dX11_grant_6 : decode cX11_grant 6 = .ok (.iload_n 1, 1) := by decide +kernel
theorem dX11_grant_7 : decode cX11_grant 7 = .ok (.invokevirtual 124, 3) := by decide +kernel
theorem dX11_grant_10 : decode cX11_grant 10 = .ok (.ifCond .ne 8, 3) := by decide +kernel
theorem dX11_grant_13 : decode cX11_grant 13 = .ok (.aload_n 0, 1) := by decide +kernel
theorem dX11_grant_14 : decode cX11_grant 14 = .ok (.invokevirtual 127, 3) := by decide +kernel
theorem dX11_grant_17 : decode cX11_grant 17 = .ok (.ireturn, 1) := by decide +kernel
theorem dX11_grant_18 : decode cX11_grant 18 = .ok (.aload_n 0, 1) := by decide +kernel
theorem dX11_grant_19 : decode cX11_grant 19 = .ok (.getfield 135, 3) := by decide +kernel
theorem dX11_grant_22 : decode cX11_grant 22 = .ok (.bipush 40, 2) := by decide +kernel
theorem dX11_grant_24 : decode cX11_grant 24 = .ok (.if_icmp .eq 21, 3) := by decide +kernel
theorem dX11_grant_27 : decode cX11_grant 27 = .ok (.iload_n 2, 1) := by decide +kernel
theorem dX11_grant_28 : decode cX11_grant 28 = .ok (.iconst 1, 1) := by decide +kernel
theorem dX11_grant_29 : decode cX11_grant 29 = .ok (.if_icmp .lt 16, 3) := by decide +kernel
theorem dX11_grant_32 : decode cX11_grant 32 = .ok (.iload_n 2, 1) := by decide +kernel
theorem dX11_grant_33 : decode cX11_grant 33 = .ok (.bipush 99, 2) := by decide +kernel
theorem dX11_grant_35 : decode cX11_grant 35 = .ok (.if_icmp .gt 10, 3) := by decide +kernel
theorem dX11_grant_38 : decode cX11_grant 38 = .ok (.iload_n 3, 1) := by decide +kernel
theorem dX11_grant_39 : decode cX11_grant 39 = .ok (.invokestatic 116, 3) := by decide +kernel
theorem dX11_grant_42 : decode cX11_grant 42 = .ok (.ifCond .ne 5, 3) := by decide +kernel
theorem dX11_grant_45 : decode cX11_grant 45 = .ok (.iconst (-1), 1) := by decide +kernel
theorem dX11_grant_46 : decode cX11_grant 46 = .ok (.ireturn, 1) := by decide +kernel
theorem dX11_grant_47 : decode cX11_grant 47 = .ok (.aload_n 0, 1) := by decide +kernel
theorem dX11_grant_48 : decode cX11_grant 48 = .ok (.getfield 57, 3) := by decide +kernel
theorem dX11_grant_51 : decode cX11_grant 51 = .ok (.aload_n 0, 1) := by decide +kernel
theorem dX11_grant_52 : decode cX11_grant 52 = .ok (.getfield 135, 3) := by decide +kernel
theorem dX11_grant_55 : decode cX11_grant 55 = .ok (.iload_n 1, 1) := by decide +kernel
theorem dX11_grant_56 : decode cX11_grant 56 = .ok (.iastore, 1) := by decide +kernel
theorem dX11_grant_57 : decode cX11_grant 57 = .ok (.aload_n 0, 1) := by decide +kernel
theorem dX11_grant_58 : decode cX11_grant 58 = .ok (.getfield 60, 3) := by decide +kernel
theorem dX11_grant_61 : decode cX11_grant 61 = .ok (.aload_n 0, 1) := by decide +kernel
theorem dX11_grant_62 : decode cX11_grant 62 = .ok (.getfield 135, 3) := by decide +kernel
theorem dX11_grant_65 : decode cX11_grant 65 = .ok (.iload_n 2, 1) := by decide +kernel
theorem dX11_grant_66 : decode cX11_grant 66 = .ok (.iastore, 1) := by decide +kernel
theorem dX11_grant_67 : decode cX11_grant 67 = .ok (.aload_n 0, 1) := by decide +kernel
theorem dX11_grant_68 : decode cX11_grant 68 = .ok (.getfield 63, 3) := by decide +kernel
theorem dX11_grant_71 : decode cX11_grant 71 = .ok (.aload_n 0, 1) := by decide +kernel
theorem dX11_grant_72 : decode cX11_grant 72 = .ok (.getfield 135, 3) := by decide +kernel
theorem dX11_grant_75 : decode cX11_grant 75 = .ok (.iload_n 3, 1) := by decide +kernel
theorem dX11_grant_76 : decode cX11_grant 76 = .ok (.iastore, 1) := by decide +kernel
theorem dX11_grant_77 : decode cX11_grant 77 = .ok (.aload_n 0, 1) := by decide +kernel
theorem dX11_grant_78 : decode cX11_grant 78 = .ok (.dup, 1) := by decide +kernel
theorem dX11_grant_79 : decode cX11_grant 79 = .ok (.getfield 135, 3) := by decide +kernel
theorem dX11_grant_82 : decode cX11_grant 82 = .ok (.iconst 1, 1) := by decide +kernel
theorem dX11_grant_83 : decode cX11_grant 83 = .ok (.iadd, 1) := by decide +kernel
theorem dX11_grant_84 : decode cX11_grant 84 = .ok (.putfield 135, 3) := by decide +kernel
theorem dX11_grant_87 : decode cX11_grant 87 = .ok (.aload_n 0, 1) := by decide +kernel
theorem dX11_grant_88 : decode cX11_grant 88 = .ok (.getfield 135, 3) := by decide +kernel
theorem dX11_grant_91 : decode cX11_grant 91 = .ok (.iconst 1, 1) := by decide +kernel
theorem dX11_grant_92 : decode cX11_grant 92 = .ok (.isub, 1) := by decide +kernel
theorem dX11_grant_93 : decode cX11_grant 93 = .ok (.ireturn, 1) := by decide +kernel
theorem dX11_about_0 : decode cX11_about 0 = .ok (.aload_n 0, 1) := by decide +kernel
theorem dX11_about_1 : decode cX11_about 1 = .ok (.iconst 0, 1) := by decide +kernel
theorem dX11_about_2 : decode cX11_about 2 = .ok (.putfield 110, 3) := by decide +kernel
theorem dX11_about_5 : decode cX11_about 5 = .ok (.aload_n 0, 1) := by decide +kernel
theorem dX11_about_6 : decode cX11_about 6 = .ok (.iload_n 1, 1) := by decide +kernel
theorem dX11_about_7 : decode cX11_about 7 = .ok (.invokevirtual 124, 3) := by decide +kernel
theorem dX11_about_10 : decode cX11_about 10 = .ok (.ifCond .ne 8, 3) := by decide +kernel
theorem dX11_about_13 : decode cX11_about 13 = .ok (.aload_n 0, 1) := by decide +kernel
theorem dX11_about_14 : decode cX11_about 14 = .ok (.invokevirtual 127, 3) := by decide +kernel
theorem dX11_about_17 : decode cX11_about 17 = .ok (.ireturn, 1) := by decide +kernel
theorem dX11_about_18 : decode cX11_about 18 = .ok (.iconst 0, 1) := by decide +kernel
theorem dX11_about_19 : decode cX11_about 19 = .ok (.istore_n 3, 1) := by decide +kernel
theorem dX11_about_20 : decode cX11_about 20 = .ok (.iconst 0, 1) := by decide +kernel
theorem dX11_about_21 : decode cX11_about 21 = .ok (.istore 4, 2) := by decide +kernel
theorem dX11_about_23 : decode cX11_about 23 = .ok (.iload 4, 2) := by decide +kernel
theorem dX11_about_25 : decode cX11_about 25 = .ok (.aload_n 0, 1) := by decide +kernel
theorem dX11_about_26 : decode cX11_about 26 = .ok (.getfield 113, 3) := by decide +kernel
theorem dX11_about_29 : decode cX11_about 29 = .ok (.if_icmp .ge 27, 3) := by decide +kernel
theorem dX11_about_32 : decode cX11_about 32 = .ok (.iload_n 3, 1) := by decide +kernel
theorem dX11_about_33 : decode cX11_about 33 = .ok (.aload_n 0, 1) := by decide +kernel
theorem dX11_about_34 : decode cX11_about 34 = .ok (.iload 4, 2) := by decide +kernel
theorem dX11_about_36 : decode cX11_about 36 = .ok (.iload_n 1, 1) := by decide +kernel
theorem dX11_about_37 : decode cX11_about 37 = .ok (.invokevirtual 138, 3) := by decide +kernel
theorem dX11_about_40 : decode cX11_about 40 = .ok (.ifCond .eq 7, 3) := by decide +kernel
theorem dX11_about_43 : decode cX11_about 43 = .ok (.iconst 1, 1) := by decide +kernel
theorem dX11_about_44 : decode cX11_about 44 = .ok (.goto 4, 3) := by decide +kernel
theorem dX11_about_47 : decode cX11_about 47 = .ok (.iconst 0, 1) := by decide +kernel
theorem dX11_about_48 : decode cX11_about 48 = .ok (.iadd, 1) := by decide +kernel
theorem dX11_about_49 : decode cX11_about 49 = .ok (.istore_n 3, 1) := by decide +kernel
theorem dX11_about_50 : decode cX11_about 50 = .ok (.iinc 4 1, 3) := by decide +kernel
theorem dX11_about_53 : decode cX11_about 53 = .ok (.goto (-30), 3) := by decide +kernel
theorem dX11_about_56 : decode cX11_about 56 = .ok (.iload_n 2, 1) := by decide +kernel
theorem dX11_about_57 : decode cX11_about 57 = .ok (.tableswitch 106 0 7 #[47, 54, 61, 68, 75, 82, 89, 104], 47) := by decide +kernel
theorem dX11_about_104 : decode cX11_about 104 = .ok (.aload_n 0, 1) := by decide +kernel
theorem dX11_about_105 : decode cX11_about 105 = .ok (.getfield 39, 3) := by decide +kernel
theorem dX11_about_108 : decode cX11_about 108 = .ok (.iload_n 1, 1) := by decide +kernel
theorem dX11_about_109 : decode cX11_about 109 = .ok (.iaload, 1) := by decide +kernel
theorem dX11_about_110 : decode cX11_about 110 = .ok (.ireturn, 1) := by decide +kernel
theorem dX11_about_111 : decode cX11_about 111 = .ok (.aload_n 0, 1) := by decide +kernel
theorem dX11_about_112 : decode cX11_about 112 = .ok (.getfield 42, 3) := by decide +kernel
theorem dX11_about_115 : decode cX11_about 115 = .ok (.iload_n 1, 1) := by decide +kernel
theorem dX11_about_116 : decode cX11_about 116 = .ok (.iaload, 1) := by decide +kernel
theorem dX11_about_117 : decode cX11_about 117 = .ok (.ireturn, 1) := by decide +kernel
theorem dX11_about_118 : decode cX11_about 118 = .ok (.aload_n 0, 1) := by decide +kernel
theorem dX11_about_119 : decode cX11_about 119 = .ok (.getfield 45, 3) := by decide +kernel
theorem dX11_about_122 : decode cX11_about 122 = .ok (.iload_n 1, 1) := by decide +kernel
theorem dX11_about_123 : decode cX11_about 123 = .ok (.iaload, 1) := by decide +kernel
theorem dX11_about_124 : decode cX11_about 124 = .ok (.ireturn, 1) := by decide +kernel
theorem dX11_about_125 : decode cX11_about 125 = .ok (.aload_n 0, 1) := by decide +kernel
theorem dX11_about_126 : decode cX11_about 126 = .ok (.getfield 48, 3) := by decide +kernel
theorem dX11_about_129 : decode cX11_about 129 = .ok (.iload_n 1, 1) := by decide +kernel
theorem dX11_about_130 : decode cX11_about 130 = .ok (.iaload, 1) := by decide +kernel
theorem dX11_about_131 : decode cX11_about 131 = .ok (.ireturn, 1) := by decide +kernel
theorem dX11_about_132 : decode cX11_about 132 = .ok (.aload_n 0, 1) := by decide +kernel
theorem dX11_about_133 : decode cX11_about 133 = .ok (.getfield 51, 3) := by decide +kernel
theorem dX11_about_136 : decode cX11_about 136 = .ok (.iload_n 1, 1) := by decide +kernel
theorem dX11_about_137 : decode cX11_about 137 = .ok (.iaload, 1) := by decide +kernel
theorem dX11_about_138 : decode cX11_about 138 = .ok (.ireturn, 1) := by decide +kernel
theorem dX11_about_139 : decode cX11_about 139 = .ok (.aload_n 0, 1) := by decide +kernel
theorem dX11_about_140 : decode cX11_about 140 = .ok (.getfield 54, 3) := by decide +kernel
theorem dX11_about_143 : decode cX11_about 143 = .ok (.iload_n 1, 1) := by decide +kernel
theorem dX11_about_144 : decode cX11_about 144 = .ok (.iaload, 1) := by decide +kernel
theorem dX11_about_145 : decode cX11_about 145 = .ok (.ireturn, 1) := by decide +kernel
theorem dX11_about_146 : decode cX11_about 146 = .ok (.aload_n 0, 1) := by decide +kernel
theorem dX11_about_147 : decode cX11_about 147 = .ok (.getfield 35, 3) := by decide +kernel
theorem dX11_about_150 : decode cX11_about 150 = .ok (.iload_n 1, 1) := by decide +kernel
theorem dX11_about_151 : decode cX11_about 151 = .ok (.baload, 1) := by decide +kernel
theorem dX11_about_152 : decode cX11_about 152 = .ok (.ifCond .eq 7, 3) := by decide +kernel
theorem dX11_about_155 : decode cX11_about 155 = .ok (.iconst 1, 1) := by decide +kernel
theorem dX11_about_156 : decode cX11_about 156 = .ok (.goto 4, 3) := by decide +kernel
theorem dX11_about_159 : decode cX11_about 159 = .ok (.iconst 0, 1) := by decide +kernel
theorem dX11_about_160 : decode cX11_about 160 = .ok (.ireturn, 1) := by decide +kernel
theorem dX11_about_161 : decode cX11_about 161 = .ok (.iload_n 3, 1) := by decide +kernel
theorem dX11_about_162 : decode cX11_about 162 = .ok (.ireturn, 1) := by decide +kernel
theorem dX11_about_163 : decode cX11_about 163 = .ok (.aload_n 0, 1) := by decide +kernel
theorem dX11_about_164 : decode cX11_about 164 = .ok (.invokevirtual 127, 3) := by decide +kernel
theorem dX11_about_167 : decode cX11_about 167 = .ok (.ireturn, 1) := by decide +kernel
theorem dX11_isChild_0 : decode cX11_isChild 0 = .ok (.aload_n 0, 1) := by decide +kernel
theorem dX11_isChild_1 : decode cX11_isChild 1 = .ok (.getfield 45, 3) := by decide +kernel
theorem dX11_isChild_4 : decode cX11_isChild 4 = .ok (.iload_n 1, 1) := by decide +kernel
theorem dX11_isChild_5 : decode cX11_isChild 5 = .ok (.iaload, 1) := by decide +kernel
theorem dX11_isChild_6 : decode cX11_isChild 6 = .ok (.iload_n 2, 1) := by decide +kernel
theorem dX11_isChild_7 : decode cX11_isChild 7 = .ok (.if_icmp .eq 13, 3) := by decide +kernel
theorem dX11_isChild_10 : decode cX11_isChild 10 = .ok (.aload_n 0, 1) := by decide +kernel
theorem dX11_isChild_11 : decode cX11_isChild 11 = .ok (.getfield 48, 3) := by decide +kernel
theorem dX11_isChild_14 : decode cX11_isChild 14 = .ok (.iload_n 1, 1) := by decide +kernel
theorem dX11_isChild_15 : decode cX11_isChild 15 = .ok (.iaload, 1) := by decide +kernel
theorem dX11_isChild_16 : decode cX11_isChild 16 = .ok (.iload_n 2, 1) := by decide +kernel
theorem dX11_isChild_17 : decode cX11_isChild 17 = .ok (.if_icmp .ne 7, 3) := by decide +kernel
theorem dX11_isChild_20 : decode cX11_isChild 20 = .ok (.iconst 1, 1) := by decide +kernel
theorem dX11_isChild_21 : decode cX11_isChild 21 = .ok (.goto 4, 3) := by decide +kernel
theorem dX11_isChild_24 : decode cX11_isChild 24 = .ok (.iconst 0, 1) := by decide +kernel
theorem dX11_isChild_25 : decode cX11_isChild 25 = .ok (.ireturn, 1) := by decide +kernel
theorem dX11_own_0 : decode cX11_own 0 = .ok (.iconst (-1), 1) := by decide +kernel
theorem dX11_own_1 : decode cX11_own 1 = .ok (.istore_n 3, 1) := by decide +kernel
theorem dX11_own_2 : decode cX11_own 2 = .ok (.iconst 0, 1) := by decide +kernel
theorem dX11_own_3 : decode cX11_own 3 = .ok (.istore 4, 2) := by decide +kernel
theorem dX11_own_5 : decode cX11_own 5 = .ok (.iload 4, 2) := by decide +kernel
theorem dX11_own_7 : decode cX11_own 7 = .ok (.aload_n 0, 1) := by decide +kernel
theorem dX11_own_8 : decode cX11_own 8 = .ok (.getfield 135, 3) := by decide +kernel
theorem dX11_own_11 : decode cX11_own 11 = .ok (.if_icmp .ge 55, 3) := by decide +kernel
theorem dX11_own_14 : decode cX11_own 14 = .ok (.aload_n 0, 1) := by decide +kernel
theorem dX11_own_15 : decode cX11_own 15 = .ok (.getfield 57, 3) := by decide +kernel
theorem dX11_own_18 : decode cX11_own 18 = .ok (.iload 4, 2) := by decide +kernel
theorem dX11_own_20 : decode cX11_own 20 = .ok (.iaload, 1) := by decide +kernel
theorem dX11_own_21 : decode cX11_own 21 = .ok (.iload_n 1, 1) := by decide +kernel
theorem dX11_own_22 : decode cX11_own 22 = .ok (.if_icmp .ne 38, 3) := by decide +kernel
theorem dX11_own_25 : decode cX11_own 25 = .ok (.aload_n 0, 1) := by decide +kernel
theorem dX11_own_26 : decode cX11_own 26 = .ok (.getfield 63, 3) := by decide +kernel
theorem dX11_own_29 : decode cX11_own 29 = .ok (.iload 4, 2) := by decide +kernel
theorem dX11_own_31 : decode cX11_own 31 = .ok (.iaload, 1) := by decide +kernel
theorem dX11_own_32 : decode cX11_own 32 = .ok (.iload_n 2, 1) := by decide +kernel
theorem dX11_own_33 : decode cX11_own 33 = .ok (.if_icmp .gt 27, 3) := by decide +kernel
theorem dX11_own_36 : decode cX11_own 36 = .ok (.iload_n 3, 1) := by decide +kernel
theorem dX11_own_37 : decode cX11_own 37 = .ok (.iconst (-1), 1) := by decide +kernel
theorem dX11_own_38 : decode cX11_own 38 = .ok (.if_icmp .eq 19, 3) := by decide +kernel
theorem dX11_own_41 : decode cX11_own 41 = .ok (.aload_n 0, 1) := by decide +kernel
theorem dX11_own_42 : decode cX11_own 42 = .ok (.getfield 63, 3) := by decide +kernel
theorem dX11_own_45 : decode cX11_own 45 = .ok (.iload 4, 2) := by decide +kernel
theorem dX11_own_47 : decode cX11_own 47 = .ok (.iaload, 1) := by decide +kernel
theorem dX11_own_48 : decode cX11_own 48 = .ok (.aload_n 0, 1) := by decide +kernel
theorem dX11_own_49 : decode cX11_own 49 = .ok (.getfield 63, 3) := by decide +kernel
theorem dX11_own_52 : decode cX11_own 52 = .ok (.iload_n 3, 1) := by decide +kernel
theorem dX11_own_53 : decode cX11_own 53 = .ok (.iaload, 1) := by decide +kernel
theorem dX11_own_54 : decode cX11_own 54 = .ok (.if_icmp .lt 6, 3) := by decide +kernel
theorem dX11_own_57 : decode cX11_own 57 = .ok (.iload 4, 2) := by decide +kernel
theorem dX11_own_59 : decode cX11_own 59 = .ok (.istore_n 3, 1) := by decide +kernel
theorem dX11_own_60 : decode cX11_own 60 = .ok (.iinc 4 1, 3) := by decide +kernel
theorem dX11_own_63 : decode cX11_own 63 = .ok (.goto (-58), 3) := by decide +kernel
theorem dX11_own_66 : decode cX11_own 66 = .ok (.iload_n 3, 1) := by decide +kernel
theorem dX11_own_67 : decode cX11_own 67 = .ok (.iconst (-1), 1) := by decide +kernel
theorem dX11_own_68 : decode cX11_own 68 = .ok (.if_icmp .ne 7, 3) := by decide +kernel
theorem dX11_own_71 : decode cX11_own 71 = .ok (.iconst (-1), 1) := by decide +kernel
theorem dX11_own_72 : decode cX11_own 72 = .ok (.goto 9, 3) := by decide +kernel
theorem dX11_own_75 : decode cX11_own 75 = .ok (.aload_n 0, 1) := by decide +kernel
theorem dX11_own_76 : decode cX11_own 76 = .ok (.getfield 60, 3) := by decide +kernel
theorem dX11_own_79 : decode cX11_own 79 = .ok (.iload_n 3, 1) := by decide +kernel
theorem dX11_own_80 : decode cX11_own 80 = .ok (.iaload, 1) := by decide +kernel
theorem dX11_own_81 : decode cX11_own 81 = .ok (.ireturn, 1) := by decide +kernel
end
section
theorem dX11_rootOf_0 : decode cX11_rootOf 0 = .ok (.iload_n 1, 1) := by decide +kernel
theorem dX11_rootOf_1 : decode cX11_rootOf 1 = .ok (.istore_n 3, 1) := by decide +kernel
theorem dX11_rootOf_2 : decode cX11_rootOf 2 = .ok (.iload_n 3, 1) := by decide +kernel
theorem dX11_rootOf_3 : decode cX11_rootOf 3 = .ok (.iconst (-1), 1) := by decide +kernel
theorem dX11_rootOf_4 : decode cX11_rootOf 4 = .ok (.if_icmp .eq 23, 3) := by decide +kernel
theorem dX11_rootOf_7 : decode cX11_rootOf 7 = .ok (.aload_n 0, 1) := by decide +kernel
theorem dX11_rootOf_8 : decode cX11_rootOf 8 = .ok (.iload_n 3, 1) := by decide +kernel
theorem dX11_rootOf_9 : decode cX11_rootOf 9 = .ok (.iload_n 2, 1) := by decide +kernel
theorem dX11_rootOf_10 : decode cX11_rootOf 10 = .ok (.invokevirtual 141, 3) := by decide +kernel
theorem dX11_rootOf_13 : decode cX11_rootOf 13 = .ok (.iconst (-1), 1) := by decide +kernel
theorem dX11_rootOf_14 : decode cX11_rootOf 14 = .ok (.if_icmp .ne 13, 3) := by decide +kernel
theorem dX11_rootOf_17 : decode cX11_rootOf 17 = .ok (.aload_n 0, 1) := by decide +kernel
theorem dX11_rootOf_18 : decode cX11_rootOf 18 = .ok (.getfield 45, 3) := by decide +kernel
theorem dX11_rootOf_21 : decode cX11_rootOf 21 = .ok (.iload_n 3, 1) := by decide +kernel
theorem dX11_rootOf_22 : decode cX11_rootOf 22 = .ok (.iaload, 1) := by decide +kernel
theorem dX11_rootOf_23 : decode cX11_rootOf 23 = .ok (.istore_n 3, 1) := by decide +kernel
theorem dX11_rootOf_24 : decode cX11_rootOf 24 = .ok (.goto (-22), 3) := by decide +kernel
theorem dX11_rootOf_27 : decode cX11_rootOf 27 = .ok (.iload_n 3, 1) := by decide +kernel
theorem dX11_rootOf_28 : decode cX11_rootOf 28 = .ok (.ireturn, 1) := by decide +kernel
theorem dX11_armsOf_0 : decode cX11_armsOf 0 = .ok (.aload_n 0, 1) := by decide +kernel
theorem dX11_armsOf_1 : decode cX11_armsOf 1 = .ok (.iload_n 1, 1) := by decide +kernel
theorem dX11_armsOf_2 : decode cX11_armsOf 2 = .ok (.iload_n 2, 1) := by decide +kernel
theorem dX11_armsOf_3 : decode cX11_armsOf 3 = .ok (.invokevirtual 145, 3) := by decide +kernel
theorem dX11_armsOf_6 : decode cX11_armsOf 6 = .ok (.istore_n 3, 1) := by decide +kernel
theorem dX11_armsOf_7 : decode cX11_armsOf 7 = .ok (.iload_n 3, 1) := by decide +kernel
theorem dX11_armsOf_8 : decode cX11_armsOf 8 = .ok (.iconst (-1), 1) := by decide +kernel
theorem dX11_armsOf_9 : decode cX11_armsOf 9 = .ok (.if_icmp .ne 7, 3) := by decide +kernel
theorem dX11_armsOf_12 : decode cX11_armsOf 12 = .ok (.iconst (-1), 1) := by decide +kernel
theorem dX11_armsOf_13 : decode cX11_armsOf 13 = .ok (.goto 9, 3) := by decide +kernel
theorem dX11_armsOf_16 : decode cX11_armsOf 16 = .ok (.aload_n 0, 1) := by decide +kernel
theorem dX11_armsOf_17 : decode cX11_armsOf 17 = .ok (.iload_n 3, 1) := by decide +kernel
theorem dX11_armsOf_18 : decode cX11_armsOf 18 = .ok (.iload_n 2, 1) := by decide +kernel
theorem dX11_armsOf_19 : decode cX11_armsOf 19 = .ok (.invokevirtual 141, 3) := by decide +kernel
theorem dX11_armsOf_22 : decode cX11_armsOf 22 = .ok (.ireturn, 1) := by decide +kernel
theorem dX11_stepsOf_0 : decode cX11_stepsOf 0 = .ok (.aload_n 0, 1) := by decide +kernel
theorem dX11_stepsOf_1 : decode cX11_stepsOf 1 = .ok (.iload_n 1, 1) := by decide +kernel
theorem dX11_stepsOf_2 : decode cX11_stepsOf 2 = .ok (.iload_n 2, 1) := by decide +kernel
theorem dX11_stepsOf_3 : decode cX11_stepsOf 3 = .ok (.invokevirtual 145, 3) := by decide +kernel
theorem dX11_stepsOf_6 : decode cX11_stepsOf 6 = .ok (.istore_n 3, 1) := by decide +kernel
theorem dX11_stepsOf_7 : decode cX11_stepsOf 7 = .ok (.iconst 0, 1) := by decide +kernel
theorem dX11_stepsOf_8 : decode cX11_stepsOf 8 = .ok (.istore 4, 2) := by decide +kernel
theorem dX11_stepsOf_10 : decode cX11_stepsOf 10 = .ok (.iload_n 1, 1) := by decide +kernel
theorem dX11_stepsOf_11 : decode cX11_stepsOf 11 = .ok (.istore 5, 2) := by decide +kernel
theorem dX11_stepsOf_13 : decode cX11_stepsOf 13 = .ok (.iload_n 3, 1) := by decide +kernel
theorem dX11_stepsOf_14 : decode cX11_stepsOf 14 = .ok (.iconst (-1), 1) := by decide +kernel
theorem dX11_stepsOf_15 : decode cX11_stepsOf 15 = .ok (.if_icmp .eq 24, 3) := by decide +kernel
theorem dX11_stepsOf_18 : decode cX11_stepsOf 18 = .ok (.iload 5, 2) := by decide +kernel
theorem dX11_stepsOf_20 : decode cX11_stepsOf 20 = .ok (.iload_n 3, 1) := by decide +kernel
theorem dX11_stepsOf_21 : decode cX11_stepsOf 21 = .ok (.if_icmp .eq 18, 3) := by decide +kernel
theorem dX11_stepsOf_24 : decode cX11_stepsOf 24 = .ok (.iinc 4 1, 3) := by decide +kernel
theorem dX11_stepsOf_27 : decode cX11_stepsOf 27 = .ok (.aload_n 0, 1) := by decide +kernel
theorem dX11_stepsOf_28 : decode cX11_stepsOf 28 = .ok (.getfield 45, 3) := by decide +kernel
theorem dX11_stepsOf_31 : decode cX11_stepsOf 31 = .ok (.iload 5, 2) := by decide +kernel
theorem dX11_stepsOf_33 : decode cX11_stepsOf 33 = .ok (.iaload, 1) := by decide +kernel
theorem dX11_stepsOf_34 : decode cX11_stepsOf 34 = .ok (.istore 5, 2) := by decide +kernel
theorem dX11_stepsOf_36 : decode cX11_stepsOf 36 = .ok (.goto (-23), 3) := by decide +kernel
theorem dX11_stepsOf_39 : decode cX11_stepsOf 39 = .ok (.iload 4, 2) := by decide +kernel
theorem dX11_stepsOf_41 : decode cX11_stepsOf 41 = .ok (.ireturn, 1) := by decide +kernel
theorem dX11_gradeOf_0 : decode cX11_gradeOf 0 = .ok (.aload_n 0, 1) := by decide +kernel
theorem dX11_gradeOf_1 : decode cX11_gradeOf 1 = .ok (.iload_n 1, 1) := by decide +kernel
theorem dX11_gradeOf_2 : decode cX11_gradeOf 2 = .ok (.iload_n 2, 1) := by decide +kernel
theorem dX11_gradeOf_3 : decode cX11_gradeOf 3 = .ok (.invokevirtual 145, 3) := by decide +kernel
theorem dX11_gradeOf_6 : decode cX11_gradeOf 6 = .ok (.istore_n 3, 1) := by decide +kernel
theorem dX11_gradeOf_7 : decode cX11_gradeOf 7 = .ok (.bipush 9, 2) := by decide +kernel
theorem dX11_gradeOf_9 : decode cX11_gradeOf 9 = .ok (.istore 4, 2) := by decide +kernel
theorem dX11_gradeOf_11 : decode cX11_gradeOf 11 = .ok (.iload_n 1, 1) := by decide +kernel
theorem dX11_gradeOf_12 : decode cX11_gradeOf 12 = .ok (.istore 5, 2) := by decide +kernel
theorem dX11_gradeOf_14 : decode cX11_gradeOf 14 = .ok (.iload_n 3, 1) := by decide +kernel
theorem dX11_gradeOf_15 : decode cX11_gradeOf 15 = .ok (.iconst (-1), 1) := by decide +kernel
theorem dX11_gradeOf_16 : decode cX11_gradeOf 16 = .ok (.if_icmp .eq 35, 3) := by decide +kernel
theorem dX11_gradeOf_19 : decode cX11_gradeOf 19 = .ok (.iload 5, 2) := by decide +kernel
theorem dX11_gradeOf_21 : decode cX11_gradeOf 21 = .ok (.iload_n 3, 1) := by decide +kernel
theorem dX11_gradeOf_22 : decode cX11_gradeOf 22 = .ok (.if_icmp .eq 29, 3) := by decide +kernel
theorem dX11_gradeOf_25 : decode cX11_gradeOf 25 = .ok (.iload 4, 2) := by decide +kernel
theorem dX11_gradeOf_27 : decode cX11_gradeOf 27 = .ok (.aload_n 0, 1) := by decide +kernel
theorem dX11_gradeOf_28 : decode cX11_gradeOf 28 = .ok (.getfield 51, 3) := by decide +kernel
theorem dX11_gradeOf_31 : decode cX11_gradeOf 31 = .ok (.iload 5, 2) := by decide +kernel
theorem dX11_gradeOf_33 : decode cX11_gradeOf 33 = .ok (.iaload, 1) := by decide +kernel
theorem dX11_gradeOf_34 : decode cX11_gradeOf 34 = .ok (.invokestatic 148, 3) := by decide +kernel
theorem dX11_gradeOf_37 : decode cX11_gradeOf 37 = .ok (.istore 4, 2) := by decide +kernel
theorem dX11_gradeOf_39 : decode cX11_gradeOf 39 = .ok (.aload_n 0, 1) := by decide +kernel
theorem dX11_gradeOf_40 : decode cX11_gradeOf 40 = .ok (.getfield 45, 3) := by decide +kernel
theorem dX11_gradeOf_43 : decode cX11_gradeOf 43 = .ok (.iload 5, 2) := by decide +kernel
theorem dX11_gradeOf_45 : decode cX11_gradeOf 45 = .ok (.iaload, 1) := by decide +kernel
theorem dX11_gradeOf_46 : decode cX11_gradeOf 46 = .ok (.istore 5, 2) := by decide +kernel
theorem dX11_gradeOf_48 : decode cX11_gradeOf 48 = .ok (.goto (-34), 3) := by decide +kernel
theorem dX11_gradeOf_51 : decode cX11_gradeOf 51 = .ok (.iload 4, 2) := by decide +kernel
theorem dX11_gradeOf_53 : decode cX11_gradeOf 53 = .ok (.ireturn, 1) := by decide +kernel
theorem dX11_lines_0 : decode cX11_lines 0 = .ok (.aload_n 0, 1) := by decide +kernel
theorem dX11_lines_1 : decode cX11_lines 1 = .ok (.getfield 113, 3) := by decide +kernel
theorem dX11_lines_4 : decode cX11_lines 4 = .ok (.iconst 1, 1) := by decide +kernel
theorem dX11_lines_5 : decode cX11_lines 5 = .ok (.isub, 1) := by decide +kernel
theorem dX11_lines_6 : decode cX11_lines 6 = .ok (.istore_n 2, 1) := by decide +kernel
theorem dX11_lines_7 : decode cX11_lines 7 = .ok (.iload_n 2, 1) := by decide +kernel
theorem dX11_lines_8 : decode cX11_lines 8 = .ok (.ifCond .lt 104, 3) := by decide +kernel
theorem dX11_lines_11 : decode cX11_lines 11 = .ok (.aload_n 0, 1) := by decide +kernel
theorem dX11_lines_12 : decode cX11_lines 12 = .ok (.iload_n 2, 1) := by decide +kernel
theorem dX11_lines_13 : decode cX11_lines 13 = .ok (.iload_n 1, 1) := by decide +kernel
theorem dX11_lines_14 : decode cX11_lines 14 = .ok (.invokevirtual 131, 3) := by decide +kernel
theorem dX11_lines_17 : decode cX11_lines 17 = .ok (.istore_n 3, 1) := by decide +kernel
theorem dX11_lines_18 : decode cX11_lines 18 = .ok (.iload_n 2, 1) := by decide +kernel
theorem dX11_lines_19 : decode cX11_lines 19 = .ok (.iconst 1, 1) := by decide +kernel
theorem dX11_lines_20 : decode cX11_lines 20 = .ok (.iadd, 1) := by decide +kernel
theorem dX11_lines_21 : decode cX11_lines 21 = .ok (.istore 4, 2) := by decide +kernel
theorem dX11_lines_23 : decode cX11_lines 23 = .ok (.iload 4, 2) := by decide +kernel
theorem dX11_lines_25 : decode cX11_lines 25 = .ok (.aload_n 0, 1) := by decide +kernel
theorem dX11_lines_26 : decode cX11_lines 26 = .ok (.getfield 113, 3) := by decide +kernel
theorem dX11_lines_29 : decode cX11_lines 29 = .ok (.if_icmp .ge 53, 3) := by decide +kernel
theorem dX11_lines_32 : decode cX11_lines 32 = .ok (.aload_n 0, 1) := by decide +kernel
theorem dX11_lines_33 : decode cX11_lines 33 = .ok (.getfield 45, 3) := by decide +kernel
theorem dX11_lines_36 : decode cX11_lines 36 = .ok (.iload 4, 2) := by decide +kernel
theorem dX11_lines_38 : decode cX11_lines 38 = .ok (.iaload, 1) := by decide +kernel
theorem dX11_lines_39 : decode cX11_lines 39 = .ok (.iload_n 2, 1) := by decide +kernel
theorem dX11_lines_40 : decode cX11_lines 40 = .ok (.if_icmp .ne 36, 3) := by decide +kernel
theorem dX11_lines_43 : decode cX11_lines 43 = .ok (.aload_n 0, 1) := by decide +kernel
theorem dX11_lines_44 : decode cX11_lines 44 = .ok (.getfield 35, 3) := by decide +kernel
theorem dX11_lines_47 : decode cX11_lines 47 = .ok (.iload 4, 2) := by decide +kernel
theorem dX11_lines_49 : decode cX11_lines 49 = .ok (.baload, 1) := by decide +kernel
theorem dX11_lines_50 : decode cX11_lines 50 = .ok (.ifCond .ne 26, 3) := by decide +kernel
theorem dX11_lines_53 : decode cX11_lines 53 = .ok (.aload_n 0, 1) := by decide +kernel
theorem dX11_lines_54 : decode cX11_lines 54 = .ok (.getfield 39, 3) := by decide +kernel
theorem dX11_lines_57 : decode cX11_lines 57 = .ok (.iload 4, 2) := by decide +kernel
theorem dX11_lines_59 : decode cX11_lines 59 = .ok (.iaload, 1) := by decide +kernel
theorem dX11_lines_60 : decode cX11_lines 60 = .ok (.iload_n 1, 1) := by decide +kernel
theorem dX11_lines_61 : decode cX11_lines 61 = .ok (.if_icmp .gt 15, 3) := by decide +kernel
theorem dX11_lines_64 : decode cX11_lines 64 = .ok (.aload_n 0, 1) := by decide +kernel
theorem dX11_lines_65 : decode cX11_lines 65 = .ok (.getfield 93, 3) := by decide +kernel
theorem dX11_lines_68 : decode cX11_lines 68 = .ok (.iload 4, 2) := by decide +kernel
theorem dX11_lines_70 : decode cX11_lines 70 = .ok (.baload, 1) := by decide +kernel
theorem dX11_lines_71 : decode cX11_lines 71 = .ok (.ifCond .eq 5, 3) := by decide +kernel
theorem dX11_lines_74 : decode cX11_lines 74 = .ok (.iconst 1, 1) := by decide +kernel
theorem dX11_lines_75 : decode cX11_lines 75 = .ok (.istore_n 3, 1) := by decide +kernel
theorem dX11_lines_76 : decode cX11_lines 76 = .ok (.iinc 4 1, 3) := by decide +kernel
theorem dX11_lines_79 : decode cX11_lines 79 = .ok (.goto (-56), 3) := by decide +kernel
theorem dX11_lines_82 : decode cX11_lines 82 = .ok (.aload_n 0, 1) := by decide +kernel
theorem dX11_lines_83 : decode cX11_lines 83 = .ok (.getfield 93, 3) := by decide +kernel
theorem dX11_lines_86 : decode cX11_lines 86 = .ok (.iload_n 2, 1) := by decide +kernel
theorem dX11_lines_87 : decode cX11_lines 87 = .ok (.iload_n 3, 1) := by decide +kernel
theorem dX11_lines_88 : decode cX11_lines 88 = .ok (.ifCond .eq 16, 3) := by decide +kernel
theorem dX11_lines_91 : decode cX11_lines 91 = .ok (.aload_n 0, 1) := by decide +kernel
theorem dX11_lines_92 : decode cX11_lines 92 = .ok (.getfield 35, 3) := by decide +kernel
theorem dX11_lines_95 : decode cX11_lines 95 = .ok (.iload_n 2, 1) := by decide +kernel
theorem dX11_lines_96 : decode cX11_lines 96 = .ok (.baload, 1) := by decide +kernel
theorem dX11_lines_97 : decode cX11_lines 97 = .ok (.ifCond .ne 7, 3) := by decide +kernel
theorem dX11_lines_100 : decode cX11_lines 100 = .ok (.iconst 1, 1) := by decide +kernel
theorem dX11_lines_101 : decode cX11_lines 101 = .ok (.goto 4, 3) := by decide +kernel
theorem dX11_lines_104 : decode cX11_lines 104 = .ok (.iconst 0, 1) := by decide +kernel
theorem dX11_lines_105 : decode cX11_lines 105 = .ok (.bastore, 1) := by decide +kernel
theorem dX11_lines_106 : decode cX11_lines 106 = .ok (.iinc 2 (-1), 3) := by decide +kernel
theorem dX11_lines_109 : decode cX11_lines 109 = .ok (.goto (-102), 3) := by decide +kernel
theorem dX11_lines_112 : decode cX11_lines 112 = .ok (.return_, 1) := by decide +kernel
theorem dX11_isAhead_0 : decode cX11_isAhead 0 = .ok (.aload_n 0, 1) := by decide +kernel
theorem dX11_isAhead_1 : decode cX11_isAhead 1 = .ok (.getfield 39, 3) := by decide +kernel
theorem dX11_isAhead_4 : decode cX11_isAhead 4 = .ok (.iload_n 1, 1) := by decide +kernel
theorem dX11_isAhead_5 : decode cX11_isAhead 5 = .ok (.iaload, 1) := by decide +kernel
theorem dX11_isAhead_6 : decode cX11_isAhead 6 = .ok (.aload_n 0, 1) := by decide +kernel
theorem dX11_isAhead_7 : decode cX11_isAhead 7 = .ok (.getfield 39, 3) := by decide +kernel
theorem dX11_isAhead_10 : decode cX11_isAhead 10 = .ok (.iload_n 2, 1) := by decide +kernel
theorem dX11_isAhead_11 : decode cX11_isAhead 11 = .ok (.iaload, 1) := by decide +kernel
theorem dX11_isAhead_12 : decode cX11_isAhead 12 = .ok (.if_icmp .lt 23, 3) := by decide +kernel
theorem dX11_isAhead_15 : decode cX11_isAhead 15 = .ok (.aload_n 0, 1) := by decide +kernel
theorem dX11_isAhead_16 : decode cX11_isAhead 16 = .ok (.getfield 39, 3) := by decide +kernel
theorem dX11_isAhead_19 : decode cX11_isAhead 19 = .ok (.iload_n 1, 1) := by decide +kernel
theorem dX11_isAhead_20 : decode cX11_isAhead 20 = .ok (.iaload, 1) := by decide +kernel
theorem dX11_isAhead_21 : decode cX11_isAhead 21 = .ok (.aload_n 0, 1) := by decide +kernel
theorem dX11_isAhead_22 : decode cX11_isAhead 22 = .ok (.getfield 39, 3) := by decide +kernel
theorem dX11_isAhead_25 : decode cX11_isAhead 25 = .ok (.iload_n 2, 1) := by decide +kernel
theorem dX11_isAhead_26 : decode cX11_isAhead 26 = .ok (.iaload, 1) := by decide +kernel
theorem dX11_isAhead_27 : decode cX11_isAhead 27 = .ok (.if_icmp .ne 12, 3) := by decide +kernel
theorem dX11_isAhead_30 : decode cX11_isAhead 30 = .ok (.iload_n 1, 1) := by decide +kernel
theorem dX11_isAhead_31 : decode cX11_isAhead 31 = .ok (.iload_n 2, 1) := by decide +kernel
theorem dX11_isAhead_32 : decode cX11_isAhead 32 = .ok (.if_icmp .ge 7, 3) := by decide +kernel
theorem dX11_isAhead_35 : decode cX11_isAhead 35 = .ok (.iconst 1, 1) := by decide +kernel
theorem dX11_isAhead_36 : decode cX11_isAhead 36 = .ok (.goto 4, 3) := by decide +kernel
theorem dX11_isAhead_39 : decode cX11_isAhead 39 = .ok (.iconst 0, 1) := by decide +kernel
theorem dX11_isAhead_40 : decode cX11_isAhead 40 = .ok (.ireturn, 1) := by decide +kernel
theorem dX11_placeOf_0 : decode cX11_placeOf 0 = .ok (.iconst 1, 1) := by decide +kernel
theorem dX11_placeOf_1 : decode cX11_placeOf 1 = .ok (.istore_n 3, 1) := by decide +kernel
theorem dX11_placeOf_2 : decode cX11_placeOf 2 = .ok (.iconst 0, 1) := by decide +kernel
theorem dX11_placeOf_3 : decode cX11_placeOf 3 = .ok (.istore 4, 2) := by decide +kernel
theorem dX11_placeOf_5 : decode cX11_placeOf 5 = .ok (.iload 4, 2) := by decide +kernel
theorem dX11_placeOf_7 : decode cX11_placeOf 7 = .ok (.aload_n 0, 1) := by decide +kernel
theorem dX11_placeOf_8 : decode cX11_placeOf 8 = .ok (.getfield 113, 3) := by decide +kernel
theorem dX11_placeOf_11 : decode cX11_placeOf 11 = .ok (.if_icmp .ge 75, 3) := by decide +kernel
theorem dX11_placeOf_14 : decode cX11_placeOf 14 = .ok (.iload 4, 2) := by decide +kernel
theorem dX11_placeOf_16 : decode cX11_placeOf 16 = .ok (.iload_n 1, 1) := by decide +kernel
theorem dX11_placeOf_17 : decode cX11_placeOf 17 = .ok (.if_icmp .eq 63, 3) := by decide +kernel
theorem dX11_placeOf_20 : decode cX11_placeOf 20 = .ok (.aload_n 0, 1) := by decide +kernel
theorem dX11_placeOf_21 : decode cX11_placeOf 21 = .ok (.getfield 45, 3) := by decide +kernel
theorem dX11_placeOf_24 : decode cX11_placeOf 24 = .ok (.iload 4, 2) := by decide +kernel
theorem dX11_placeOf_26 : decode cX11_placeOf 26 = .ok (.iaload, 1) := by decide +kernel
theorem dX11_placeOf_27 : decode cX11_placeOf 27 = .ok (.aload_n 0, 1) := by decide +kernel
theorem dX11_placeOf_28 : decode cX11_placeOf 28 = .ok (.getfield 45, 3) := by decide +kernel
theorem dX11_placeOf_31 : decode cX11_placeOf 31 = .ok (.iload_n 1, 1) := by decide +kernel
theorem dX11_placeOf_32 : decode cX11_placeOf 32 = .ok (.iaload, 1) := by decide +kernel
theorem dX11_placeOf_33 : decode cX11_placeOf 33 = .ok (.if_icmp .ne 47, 3) := by decide +kernel
theorem dX11_placeOf_36 : decode cX11_placeOf 36 = .ok (.aload_n 0, 1) := by decide +kernel
theorem dX11_placeOf_37 : decode cX11_placeOf 37 = .ok (.getfield 35, 3) := by decide +kernel
theorem dX11_placeOf_40 : decode cX11_placeOf 40 = .ok (.iload 4, 2) := by decide +kernel
theorem dX11_placeOf_42 : decode cX11_placeOf 42 = .ok (.baload, 1) := by decide +kernel
theorem dX11_placeOf_43 : decode cX11_placeOf 43 = .ok (.ifCond .ne 37, 3) := by decide +kernel
theorem dX11_placeOf_46 : decode cX11_placeOf 46 = .ok (.aload_n 0, 1) := by decide +kernel
theorem dX11_placeOf_47 : decode cX11_placeOf 47 = .ok (.getfield 39, 3) := by decide +kernel
theorem dX11_placeOf_50 : decode cX11_placeOf 50 = .ok (.iload 4, 2) := by decide +kernel
theorem dX11_placeOf_52 : decode cX11_placeOf 52 = .ok (.iaload, 1) := by decide +kernel
theorem dX11_placeOf_53 : decode cX11_placeOf 53 = .ok (.iload_n 2, 1) := by decide +kernel
theorem dX11_placeOf_54 : decode cX11_placeOf 54 = .ok (.if_icmp .gt 26, 3) := by decide +kernel
theorem dX11_placeOf_57 : decode cX11_placeOf 57 = .ok (.aload_n 0, 1) := by decide +kernel
theorem dX11_placeOf_58 : decode cX11_placeOf 58 = .ok (.getfield 93, 3) := by decide +kernel
theorem dX11_placeOf_61 : decode cX11_placeOf 61 = .ok (.iload 4, 2) := by decide +kernel
theorem dX11_placeOf_63 : decode cX11_placeOf 63 = .ok (.baload, 1) := by decide +kernel
theorem dX11_placeOf_64 : decode cX11_placeOf 64 = .ok (.ifCond .eq 16, 3) := by decide +kernel
theorem dX11_placeOf_67 : decode cX11_placeOf 67 = .ok (.aload_n 0, 1) := by decide +kernel
theorem dX11_placeOf_68 : decode cX11_placeOf 68 = .ok (.iload 4, 2) := by decide +kernel
theorem dX11_placeOf_70 : decode cX11_placeOf 70 = .ok (.iload_n 1, 1) := by decide +kernel
theorem dX11_placeOf_71 : decode cX11_placeOf 71 = .ok (.invokevirtual 153, 3) := by decide +kernel
theorem dX11_placeOf_74 : decode cX11_placeOf 74 = .ok (.ifCond .eq 6, 3) := by decide +kernel
theorem dX11_placeOf_77 : decode cX11_placeOf 77 = .ok (.iinc 3 1, 3) := by decide +kernel
theorem dX11_placeOf_80 : decode cX11_placeOf 80 = .ok (.iinc 4 1, 3) := by decide +kernel
theorem dX11_placeOf_83 : decode cX11_placeOf 83 = .ok (.goto (-78), 3) := by decide +kernel
theorem dX11_placeOf_86 : decode cX11_placeOf 86 = .ok (.iload_n 3, 1) := by decide +kernel
theorem dX11_placeOf_87 : decode cX11_placeOf 87 = .ok (.ireturn, 1) := by decide +kernel
theorem dX11_marksOf_0 : decode cX11_marksOf 0 = .ok (.aload_n 0, 1) := by decide +kernel
theorem dX11_marksOf_1 : decode cX11_marksOf 1 = .ok (.iload_n 2, 1) := by decide +kernel
theorem dX11_marksOf_2 : decode cX11_marksOf 2 = .ok (.invokevirtual 156, 3) := by decide +kernel
theorem dX11_marksOf_5 : decode cX11_marksOf 5 = .ok (.aload_n 0, 1) := by decide +kernel
theorem dX11_marksOf_6 : decode cX11_marksOf 6 = .ok (.iload_n 1, 1) := by decide +kernel
theorem dX11_marksOf_7 : decode cX11_marksOf 7 = .ok (.iload_n 2, 1) := by decide +kernel
theorem dX11_marksOf_8 : decode cX11_marksOf 8 = .ok (.invokevirtual 160, 3) := by decide +kernel
theorem dX11_marksOf_11 : decode cX11_marksOf 11 = .ok (.istore_n 3, 1) := by decide +kernel
theorem dX11_marksOf_12 : decode cX11_marksOf 12 = .ok (.iload_n 1, 1) := by decide +kernel
theorem dX11_marksOf_13 : decode cX11_marksOf 13 = .ok (.istore 4, 2) := by decide +kernel
theorem dX11_marksOf_15 : decode cX11_marksOf 15 = .ok (.iload_n 3, 1) := by decide +kernel
theorem dX11_marksOf_16 : decode cX11_marksOf 16 = .ok (.iconst 1, 1) := by decide +kernel
theorem dX11_marksOf_17 : decode cX11_marksOf 17 = .ok (.isub, 1) := by decide +kernel
theorem dX11_marksOf_18 : decode cX11_marksOf 18 = .ok (.istore 5, 2) := by decide +kernel
theorem dX11_marksOf_20 : decode cX11_marksOf 20 = .ok (.iload 5, 2) := by decide +kernel
theorem dX11_marksOf_22 : decode cX11_marksOf 22 = .ok (.ifCond .lt 32, 3) := by decide +kernel
theorem dX11_marksOf_25 : decode cX11_marksOf 25 = .ok (.aload_n 0, 1) := by decide +kernel
theorem dX11_marksOf_26 : decode cX11_marksOf 26 = .ok (.getfield 96, 3) := by decide +kernel
theorem dX11_marksOf_29 : decode cX11_marksOf 29 = .ok (.iload 5, 2) := by decide +kernel
theorem dX11_marksOf_31 : decode cX11_marksOf 31 = .ok (.aload_n 0, 1) := by decide +kernel
theorem dX11_marksOf_32 : decode cX11_marksOf 32 = .ok (.iload 4, 2) := by decide +kernel
theorem dX11_marksOf_34 : decode cX11_marksOf 34 = .ok (.iload_n 2, 1) := by decide +kernel
theorem dX11_marksOf_35 : decode cX11_marksOf 35 = .ok (.invokevirtual 163, 3) := by decide +kernel
theorem dX11_marksOf_38 : decode cX11_marksOf 38 = .ok (.iastore, 1) := by decide +kernel
theorem dX11_marksOf_39 : decode cX11_marksOf 39 = .ok (.aload_n 0, 1) := by decide +kernel
theorem dX11_marksOf_40 : decode cX11_marksOf 40 = .ok (.getfield 45, 3) := by decide +kernel
theorem dX11_marksOf_43 : decode cX11_marksOf 43 = .ok (.iload 4, 2) := by decide +kernel
theorem dX11_marksOf_45 : decode cX11_marksOf 45 = .ok (.iaload, 1) := by decide +kernel
theorem dX11_marksOf_46 : decode cX11_marksOf 46 = .ok (.istore 4, 2) := by decide +kernel
theorem dX11_marksOf_48 : decode cX11_marksOf 48 = .ok (.iinc 5 (-1), 3) := by decide +kernel
theorem dX11_marksOf_51 : decode cX11_marksOf 51 = .ok (.goto (-31), 3) := by decide +kernel
theorem dX11_marksOf_54 : decode cX11_marksOf 54 = .ok (.iload_n 3, 1) := by decide +kernel
theorem dX11_marksOf_55 : decode cX11_marksOf 55 = .ok (.ireturn, 1) := by decide +kernel
theorem dX11_marksAbove_0 : decode cX11_marksAbove 0 = .ok (.aload_n 0, 1) := by decide +kernel
theorem dX11_marksAbove_1 : decode cX11_marksAbove 1 = .ok (.iload_n 1, 1) := by decide +kernel
theorem dX11_marksAbove_2 : decode cX11_marksAbove 2 = .ok (.iload_n 2, 1) := by decide +kernel
theorem dX11_marksAbove_3 : decode cX11_marksAbove 3 = .ok (.invokevirtual 166, 3) := by decide +kernel
theorem dX11_marksAbove_6 : decode cX11_marksAbove 6 = .ok (.istore_n 3, 1) := by decide +kernel
theorem dX11_marksAbove_7 : decode cX11_marksAbove 7 = .ok (.iconst 0, 1) := by decide +kernel
theorem dX11_marksAbove_8 : decode cX11_marksAbove 8 = .ok (.istore 4, 2) := by decide +kernel
theorem dX11_marksAbove_10 : decode cX11_marksAbove 10 = .ok (.iconst 0, 1) := by decide +kernel
theorem dX11_marksAbove_11 : decode cX11_marksAbove 11 = .ok (.istore 5, 2) := by decide +kernel
theorem dX11_marksAbove_13 : decode cX11_marksAbove 13 = .ok (.iload 5, 2) := by decide +kernel
theorem dX11_marksAbove_15 : decode cX11_marksAbove 15 = .ok (.iload_n 3, 1) := by decide +kernel
theorem dX11_marksAbove_16 : decode cX11_marksAbove 16 = .ok (.if_icmp .ge 30, 3) := by decide +kernel
theorem dX11_marksAbove_19 : decode cX11_marksAbove 19 = .ok (.iload 4, 2) := by decide +kernel
theorem dX11_marksAbove_21 : decode cX11_marksAbove 21 = .ok (.aload_n 0, 1) := by decide +kernel
theorem dX11_marksAbove_22 : decode cX11_marksAbove 22 = .ok (.getfield 96, 3) := by decide +kernel
theorem dX11_marksAbove_25 : decode cX11_marksAbove 25 = .ok (.iload 5, 2) := by decide +kernel
theorem dX11_marksAbove_27 : decode cX11_marksAbove 27 = .ok (.iaload, 1) := by decide +kernel
theorem dX11_marksAbove_28 : decode cX11_marksAbove 28 = .ok (.iconst 1, 1) := by decide +kernel
theorem dX11_marksAbove_29 : decode cX11_marksAbove 29 = .ok (.if_icmp .le 7, 3) := by decide +kernel
theorem dX11_marksAbove_32 : decode cX11_marksAbove 32 = .ok (.iconst 1, 1) := by decide +kernel
theorem dX11_marksAbove_33 : decode cX11_marksAbove 33 = .ok (.goto 4, 3) := by decide +kernel
theorem dX11_marksAbove_36 : decode cX11_marksAbove 36 = .ok (.iconst 0, 1) := by decide +kernel
theorem dX11_marksAbove_37 : decode cX11_marksAbove 37 = .ok (.iadd, 1) := by decide +kernel
theorem dX11_marksAbove_38 : decode cX11_marksAbove 38 = .ok (.istore 4, 2) := by decide +kernel
theorem dX11_marksAbove_40 : decode cX11_marksAbove 40 = .ok (.iinc 5 1, 3) := by decide +kernel
theorem dX11_marksAbove_43 : decode cX11_marksAbove 43 = .ok (.goto (-30), 3) := by decide +kernel
theorem dX11_marksAbove_46 : decode cX11_marksAbove 46 = .ok (.iload 4, 2) := by decide +kernel
theorem dX11_marksAbove_48 : decode cX11_marksAbove 48 = .ok (.ireturn, 1) := by decide +kernel
theorem dX11_isHeiress_0 : decode cX11_isHeiress 0 = .ok (.aload_n 0, 1) := by decide +kernel
theorem dX11_isHeiress_1 : decode cX11_isHeiress 1 = .ok (.getfield 45, 3) := by decide +kernel
theorem dX11_isHeiress_4 : decode cX11_isHeiress 4 = .ok (.iload_n 1, 1) := by decide +kernel
theorem dX11_isHeiress_5 : decode cX11_isHeiress 5 = .ok (.iaload, 1) := by decide +kernel
theorem dX11_isHeiress_6 : decode cX11_isHeiress 6 = .ok (.istore_n 3, 1) := by decide +kernel
theorem dX11_isHeiress_7 : decode cX11_isHeiress 7 = .ok (.aload_n 0, 1) := by decide +kernel
theorem dX11_isHeiress_8 : decode cX11_isHeiress 8 = .ok (.getfield 35, 3) := by decide +kernel
theorem dX11_isHeiress_11 : decode cX11_isHeiress 11 = .ok (.iload_n 1, 1) := by decide +kernel
theorem dX11_isHeiress_12 : decode cX11_isHeiress 12 = .ok (.baload, 1) := by decide +kernel
theorem dX11_isHeiress_13 : decode cX11_isHeiress 13 = .ok (.ifCond .eq 17, 3) := by decide +kernel
theorem dX11_isHeiress_16 : decode cX11_isHeiress 16 = .ok (.iload_n 3, 1) := by decide +kernel
theorem dX11_isHeiress_17 : decode cX11_isHeiress 17 = .ok (.iconst (-1), 1) := by decide +kernel
theorem dX11_isHeiress_18 : decode cX11_isHeiress 18 = .ok (.if_icmp .eq 12, 3) := by decide +kernel
theorem dX11_isHeiress_21 : decode cX11_isHeiress 21 = .ok (.aload_n 0, 1) := by decide +kernel
theorem dX11_isHeiress_22 : decode cX11_isHeiress 22 = .ok (.iload_n 3, 1) := by decide +kernel
theorem dX11_isHeiress_23 : decode cX11_isHeiress 23 = .ok (.invokevirtual 120, 3) := by decide +kernel
theorem dX11_isHeiress_26 : decode cX11_isHeiress 26 = .ok (.iload_n 2, 1) := by decide +kernel
theorem dX11_isHeiress_27 : decode cX11_isHeiress 27 = .ok (.if_icmp .le 5, 3) := by decide +kernel
theorem dX11_isHeiress_30 : decode cX11_isHeiress 30 = .ok (.iconst 0, 1) := by decide +kernel
theorem dX11_isHeiress_31 : decode cX11_isHeiress 31 = .ok (.ireturn, 1) := by decide +kernel
theorem dX11_isHeiress_32 : decode cX11_isHeiress 32 = .ok (.aload_n 0, 1) := by decide +kernel
theorem dX11_isHeiress_33 : decode cX11_isHeiress 33 = .ok (.iload_n 2, 1) := by decide +kernel
theorem dX11_isHeiress_34 : decode cX11_isHeiress 34 = .ok (.invokevirtual 156, 3) := by decide +kernel
theorem dX11_isHeiress_37 : decode cX11_isHeiress 37 = .ok (.iconst 0, 1) := by decide +kernel
theorem dX11_isHeiress_38 : decode cX11_isHeiress 38 = .ok (.istore 4, 2) := by decide +kernel
theorem dX11_isHeiress_40 : decode cX11_isHeiress 40 = .ok (.iload 4, 2) := by decide +kernel
theorem dX11_isHeiress_42 : decode cX11_isHeiress 42 = .ok (.aload_n 0, 1) := by decide +kernel
theorem dX11_isHeiress_43 : decode cX11_isHeiress 43 = .ok (.getfield 113, 3) := by decide +kernel
theorem dX11_isHeiress_46 : decode cX11_isHeiress 46 = .ok (.if_icmp .ge 53, 3) := by decide +kernel
theorem dX11_isHeiress_49 : decode cX11_isHeiress 49 = .ok (.aload_n 0, 1) := by decide +kernel
theorem dX11_isHeiress_50 : decode cX11_isHeiress 50 = .ok (.getfield 45, 3) := by decide +kernel
theorem dX11_isHeiress_53 : decode cX11_isHeiress 53 = .ok (.iload 4, 2) := by decide +kernel
theorem dX11_isHeiress_55 : decode cX11_isHeiress 55 = .ok (.iaload, 1) := by decide +kernel
theorem dX11_isHeiress_56 : decode cX11_isHeiress 56 = .ok (.iload_n 3, 1) := by decide +kernel
theorem dX11_isHeiress_57 : decode cX11_isHeiress 57 = .ok (.if_icmp .ne 36, 3) := by decide +kernel
theorem dX11_isHeiress_60 : decode cX11_isHeiress 60 = .ok (.aload_n 0, 1) := by decide +kernel
theorem dX11_isHeiress_61 : decode cX11_isHeiress 61 = .ok (.getfield 35, 3) := by decide +kernel
theorem dX11_isHeiress_64 : decode cX11_isHeiress 64 = .ok (.iload 4, 2) := by decide +kernel
theorem dX11_isHeiress_66 : decode cX11_isHeiress 66 = .ok (.baload, 1) := by decide +kernel
theorem dX11_isHeiress_67 : decode cX11_isHeiress 67 = .ok (.ifCond .ne 26, 3) := by decide +kernel
theorem dX11_isHeiress_70 : decode cX11_isHeiress 70 = .ok (.aload_n 0, 1) := by decide +kernel
theorem dX11_isHeiress_71 : decode cX11_isHeiress 71 = .ok (.getfield 39, 3) := by decide +kernel
theorem dX11_isHeiress_74 : decode cX11_isHeiress 74 = .ok (.iload 4, 2) := by decide +kernel
theorem dX11_isHeiress_76 : decode cX11_isHeiress 76 = .ok (.iaload, 1) := by decide +kernel
theorem dX11_isHeiress_77 : decode cX11_isHeiress 77 = .ok (.iload_n 2, 1) := by decide +kernel
theorem dX11_isHeiress_78 : decode cX11_isHeiress 78 = .ok (.if_icmp .gt 15, 3) := by decide +kernel
theorem dX11_isHeiress_81 : decode cX11_isHeiress 81 = .ok (.aload_n 0, 1) := by decide +kernel
theorem dX11_isHeiress_82 : decode cX11_isHeiress 82 = .ok (.getfield 93, 3) := by decide +kernel
theorem dX11_isHeiress_85 : decode cX11_isHeiress 85 = .ok (.iload 4, 2) := by decide +kernel
theorem dX11_isHeiress_87 : decode cX11_isHeiress 87 = .ok (.baload, 1) := by decide +kernel
theorem dX11_isHeiress_88 : decode cX11_isHeiress 88 = .ok (.ifCond .eq 5, 3) := by decide +kernel
theorem dX11_isHeiress_91 : decode cX11_isHeiress 91 = .ok (.iconst 0, 1) := by decide +kernel
theorem dX11_isHeiress_92 : decode cX11_isHeiress 92 = .ok (.ireturn, 1) := by decide +kernel
theorem dX11_isHeiress_93 : decode cX11_isHeiress 93 = .ok (.iinc 4 1, 3) := by decide +kernel
theorem dX11_isHeiress_96 : decode cX11_isHeiress 96 = .ok (.goto (-56), 3) := by decide +kernel
theorem dX11_isHeiress_99 : decode cX11_isHeiress 99 = .ok (.iconst 1, 1) := by decide +kernel
theorem dX11_isHeiress_100 : decode cX11_isHeiress 100 = .ok (.ireturn, 1) := by decide +kernel
theorem dX11_bears_0 : decode cX11_bears 0 = .ok (.aload_n 0, 1) := by decide +kernel
theorem dX11_bears_1 : decode cX11_bears 1 = .ok (.iconst 0, 1) := by decide +kernel
theorem dX11_bears_2 : decode cX11_bears 2 = .ok (.putfield 110, 3) := by decide +kernel
theorem dX11_bears_5 : decode cX11_bears 5 = .ok (.aload_n 0, 1) := by decide +kernel
theorem dX11_bears_6 : decode cX11_bears 6 = .ok (.iload_n 1, 1) := by decide +kernel
theorem dX11_bears_7 : decode cX11_bears 7 = .ok (.invokevirtual 124, 3) := by decide +kernel
theorem dX11_bears_10 : decode cX11_bears 10 = .ok (.ifCond .ne 8, 3) := by decide +kernel
theorem dX11_bears_13 : decode cX11_bears 13 = .ok (.aload_n 0, 1) := by decide +kernel
theorem dX11_bears_14 : decode cX11_bears 14 = .ok (.invokevirtual 127, 3) := by decide +kernel
theorem dX11_bears_17 : decode cX11_bears 17 = .ok (.ireturn, 1) := by decide +kernel
theorem dX11_bears_18 : decode cX11_bears 18 = .ok (.aload_n 0, 1) := by decide +kernel
theorem dX11_bears_19 : decode cX11_bears 19 = .ok (.iload_n 1, 1) := by decide +kernel
theorem dX11_bears_20 : decode cX11_bears 20 = .ok (.iload_n 2, 1) := by decide +kernel
theorem dX11_bears_21 : decode cX11_bears 21 = .ok (.invokevirtual 145, 3) := by decide +kernel
theorem dX11_bears_24 : decode cX11_bears 24 = .ok (.istore 4, 2) := by decide +kernel
theorem dX11_bears_26 : decode cX11_bears 26 = .ok (.iload_n 3, 1) := by decide +kernel
theorem dX11_bears_27 : decode cX11_bears 27 = .ok (.tableswitch 160 0 7 #[45, 52, 55, 72, 89, 104, 124, 139], 45) := by decide +kernel
theorem dX11_bears_72 : decode cX11_bears 72 = .ok (.aload_n 0, 1) := by decide +kernel
theorem dX11_bears_73 : decode cX11_bears 73 = .ok (.iload_n 1, 1) := by decide +kernel
theorem dX11_bears_74 : decode cX11_bears 74 = .ok (.iload_n 2, 1) := by decide +kernel
theorem dX11_bears_75 : decode cX11_bears 75 = .ok (.invokevirtual 169, 3) := by decide +kernel
theorem dX11_bears_78 : decode cX11_bears 78 = .ok (.ireturn, 1) := by decide +kernel
theorem dX11_bears_79 : decode cX11_bears 79 = .ok (.iload 4, 2) := by decide +kernel
theorem dX11_bears_81 : decode cX11_bears 81 = .ok (.ireturn, 1) := by decide +kernel
theorem dX11_bears_82 : decode cX11_bears 82 = .ok (.iload 4, 2) := by decide +kernel
theorem dX11_bears_84 : decode cX11_bears 84 = .ok (.iconst (-1), 1) := by decide +kernel
theorem dX11_bears_85 : decode cX11_bears 85 = .ok (.if_icmp .ne 7, 3) := by decide +kernel
theorem dX11_bears_88 : decode cX11_bears 88 = .ok (.iconst (-1), 1) := by decide +kernel
theorem dX11_bears_89 : decode cX11_bears 89 = .ok (.goto 9, 3) := by decide +kernel
theorem dX11_bears_92 : decode cX11_bears 92 = .ok (.aload_n 0, 1) := by decide +kernel
theorem dX11_bears_93 : decode cX11_bears 93 = .ok (.iload_n 1, 1) := by decide +kernel
theorem dX11_bears_94 : decode cX11_bears 94 = .ok (.iload_n 2, 1) := by decide +kernel
theorem dX11_bears_95 : decode cX11_bears 95 = .ok (.invokevirtual 160, 3) := by decide +kernel
theorem dX11_bears_98 : decode cX11_bears 98 = .ok (.ireturn, 1) := by decide +kernel
theorem dX11_bears_99 : decode cX11_bears 99 = .ok (.iload 4, 2) := by decide +kernel
theorem dX11_bears_101 : decode cX11_bears 101 = .ok (.iconst (-1), 1) := by decide +kernel
theorem dX11_bears_102 : decode cX11_bears 102 = .ok (.if_icmp .ne 7, 3) := by decide +kernel
theorem dX11_bears_105 : decode cX11_bears 105 = .ok (.iconst (-1), 1) := by decide +kernel
theorem dX11_bears_106 : decode cX11_bears 106 = .ok (.goto 9, 3) := by decide +kernel
theorem dX11_bears_109 : decode cX11_bears 109 = .ok (.aload_n 0, 1) := by decide +kernel
theorem dX11_bears_110 : decode cX11_bears 110 = .ok (.iload_n 1, 1) := by decide +kernel
theorem dX11_bears_111 : decode cX11_bears 111 = .ok (.iload_n 2, 1) := by decide +kernel
theorem dX11_bears_112 : decode cX11_bears 112 = .ok (.invokevirtual 172, 3) := by decide +kernel
theorem dX11_bears_115 : decode cX11_bears 115 = .ok (.ireturn, 1) := by decide +kernel
theorem dX11_bears_116 : decode cX11_bears 116 = .ok (.aload_n 0, 1) := by decide +kernel
theorem dX11_bears_117 : decode cX11_bears 117 = .ok (.iload_n 1, 1) := by decide +kernel
theorem dX11_bears_118 : decode cX11_bears 118 = .ok (.iload_n 2, 1) := by decide +kernel
theorem dX11_bears_119 : decode cX11_bears 119 = .ok (.invokevirtual 131, 3) := by decide +kernel
theorem dX11_bears_122 : decode cX11_bears 122 = .ok (.ifCond .eq 7, 3) := by decide +kernel
theorem dX11_bears_125 : decode cX11_bears 125 = .ok (.iconst 1, 1) := by decide +kernel
theorem dX11_bears_126 : decode cX11_bears 126 = .ok (.goto 4, 3) := by decide +kernel
theorem dX11_bears_129 : decode cX11_bears 129 = .ok (.iconst 0, 1) := by decide +kernel
theorem dX11_bears_130 : decode cX11_bears 130 = .ok (.ireturn, 1) := by decide +kernel
theorem dX11_bears_131 : decode cX11_bears 131 = .ok (.aload_n 0, 1) := by decide +kernel
theorem dX11_bears_132 : decode cX11_bears 132 = .ok (.iload_n 2, 1) := by decide +kernel
theorem dX11_bears_133 : decode cX11_bears 133 = .ok (.invokevirtual 156, 3) := by decide +kernel
theorem dX11_bears_136 : decode cX11_bears 136 = .ok (.aload_n 0, 1) := by decide +kernel
theorem dX11_bears_137 : decode cX11_bears 137 = .ok (.getfield 93, 3) := by decide +kernel
theorem dX11_bears_140 : decode cX11_bears 140 = .ok (.iload_n 1, 1) := by decide +kernel
theorem dX11_bears_141 : decode cX11_bears 141 = .ok (.baload, 1) := by decide +kernel
theorem dX11_bears_142 : decode cX11_bears 142 = .ok (.ifCond .eq 7, 3) := by decide +kernel
theorem dX11_bears_145 : decode cX11_bears 145 = .ok (.iconst 1, 1) := by decide +kernel
theorem dX11_bears_146 : decode cX11_bears 146 = .ok (.goto 4, 3) := by decide +kernel
theorem dX11_bears_149 : decode cX11_bears 149 = .ok (.iconst 0, 1) := by decide +kernel
theorem dX11_bears_150 : decode cX11_bears 150 = .ok (.ireturn, 1) := by decide +kernel
theorem dX11_bears_151 : decode cX11_bears 151 = .ok (.aload_n 0, 1) := by decide +kernel
theorem dX11_bears_152 : decode cX11_bears 152 = .ok (.iload_n 1, 1) := by decide +kernel
theorem dX11_bears_153 : decode cX11_bears 153 = .ok (.iload_n 2, 1) := by decide +kernel
theorem dX11_bears_154 : decode cX11_bears 154 = .ok (.invokevirtual 175, 3) := by decide +kernel
theorem dX11_bears_157 : decode cX11_bears 157 = .ok (.ifCond .eq 7, 3) := by decide +kernel
theorem dX11_bears_160 : decode cX11_bears 160 = .ok (.iconst 1, 1) := by decide +kernel
theorem dX11_bears_161 : decode cX11_bears 161 = .ok (.goto 4, 3) := by decide +kernel
theorem dX11_bears_164 : decode cX11_bears 164 = .ok (.iconst 0, 1) := by decide +kernel
theorem dX11_bears_165 : decode cX11_bears 165 = .ok (.ireturn, 1) := by decide +kernel
theorem dX11_bears_166 : decode cX11_bears 166 = .ok (.iload 4, 2) := by decide +kernel
theorem dX11_bears_168 : decode cX11_bears 168 = .ok (.iconst (-1), 1) := by decide +kernel
theorem dX11_bears_169 : decode cX11_bears 169 = .ok (.if_icmp .eq 16, 3) := by decide +kernel
theorem dX11_bears_172 : decode cX11_bears 172 = .ok (.aload_n 0, 1) := by decide +kernel
theorem dX11_bears_173 : decode cX11_bears 173 = .ok (.iload_n 1, 1) := by decide +kernel
theorem dX11_bears_174 : decode cX11_bears 174 = .ok (.iload_n 2, 1) := by decide +kernel
theorem dX11_bears_175 : decode cX11_bears 175 = .ok (.invokevirtual 178, 3) := by decide +kernel
theorem dX11_bears_178 : decode cX11_bears 178 = .ok (.ifCond .ne 7, 3) := by decide +kernel
theorem dX11_bears_181 : decode cX11_bears 181 = .ok (.iconst 1, 1) := by decide +kernel
theorem dX11_bears_182 : decode cX11_bears 182 = .ok (.goto 4, 3) := by decide +kernel
theorem dX11_bears_185 : decode cX11_bears 185 = .ok (.iconst 0, 1) := by decide +kernel
theorem dX11_bears_186 : decode cX11_bears 186 = .ok (.ireturn, 1) := by decide +kernel
theorem dX11_bears_187 : decode cX11_bears 187 = .ok (.aload_n 0, 1) := by decide +kernel
theorem dX11_bears_188 : decode cX11_bears 188 = .ok (.invokevirtual 127, 3) := by decide +kernel
theorem dX11_bears_191 : decode cX11_bears 191 = .ok (.ireturn, 1) := by decide +kernel
theorem dX11_mark_0 : decode cX11_mark 0 = .ok (.aload_n 0, 1) := by decide +kernel
theorem dX11_mark_1 : decode cX11_mark 1 = .ok (.iconst 0, 1) := by decide +kernel
theorem dX11_mark_2 : decode cX11_mark 2 = .ok (.putfield 110, 3) := by decide +kernel
theorem dX11_mark_5 : decode cX11_mark 5 = .ok (.aload_n 0, 1) := by decide +kernel
theorem dX11_mark_6 : decode cX11_mark 6 = .ok (.iload_n 1, 1) := by decide +kernel
theorem dX11_mark_7 : decode cX11_mark 7 = .ok (.invokevirtual 124, 3) := by decide +kernel
theorem dX11_mark_10 : decode cX11_mark 10 = .ok (.ifCond .eq 27, 3) := by decide +kernel
theorem dX11_mark_13 : decode cX11_mark 13 = .ok (.aload_n 0, 1) := by decide +kernel
theorem dX11_mark_14 : decode cX11_mark 14 = .ok (.iload_n 1, 1) := by decide +kernel
theorem dX11_mark_15 : decode cX11_mark 15 = .ok (.iload_n 2, 1) := by decide +kernel
theorem dX11_mark_16 : decode cX11_mark 16 = .ok (.invokevirtual 145, 3) := by decide +kernel
theorem dX11_mark_19 : decode cX11_mark 19 = .ok (.iconst (-1), 1) := by decide +kernel
theorem dX11_mark_20 : decode cX11_mark 20 = .ok (.if_icmp .eq 17, 3) := by decide +kernel
theorem dX11_mark_23 : decode cX11_mark 23 = .ok (.iload_n 3, 1) := by decide +kernel
theorem dX11_mark_24 : decode cX11_mark 24 = .ok (.ifCond .lt 13, 3) := by decide +kernel
theorem dX11_mark_27 : decode cX11_mark 27 = .ok (.iload_n 3, 1) := by decide +kernel
theorem dX11_mark_28 : decode cX11_mark 28 = .ok (.aload_n 0, 1) := by decide +kernel
theorem dX11_mark_29 : decode cX11_mark 29 = .ok (.iload_n 1, 1) := by decide +kernel
theorem dX11_mark_30 : decode cX11_mark 30 = .ok (.iload_n 2, 1) := by decide +kernel
theorem dX11_mark_31 : decode cX11_mark 31 = .ok (.invokevirtual 166, 3) := by decide +kernel
theorem dX11_mark_34 : decode cX11_mark 34 = .ok (.if_icmp .lt 8, 3) := by decide +kernel
theorem dX11_mark_37 : decode cX11_mark 37 = .ok (.aload_n 0, 1) := by decide +kernel
theorem dX11_mark_38 : decode cX11_mark 38 = .ok (.invokevirtual 127, 3) := by decide +kernel
theorem dX11_mark_41 : decode cX11_mark 41 = .ok (.ireturn, 1) := by decide +kernel
theorem dX11_mark_42 : decode cX11_mark 42 = .ok (.aload_n 0, 1) := by decide +kernel
theorem dX11_mark_43 : decode cX11_mark 43 = .ok (.getfield 96, 3) := by decide +kernel
theorem dX11_mark_46 : decode cX11_mark 46 = .ok (.iload_n 3, 1) := by decide +kernel
theorem dX11_mark_47 : decode cX11_mark 47 = .ok (.iaload, 1) := by decide +kernel
theorem dX11_mark_48 : decode cX11_mark 48 = .ok (.ireturn, 1) := by decide +kernel
theorem dX11_head_0 : decode cX11_head 0 = .ok (.aload_n 0, 1) := by decide +kernel
theorem dX11_head_1 : decode cX11_head 1 = .ok (.iconst 0, 1) := by decide +kernel
theorem dX11_head_2 : decode cX11_head 2 = .ok (.putfield 110, 3) := by decide +kernel
theorem dX11_head_5 : decode cX11_head 5 = .ok (.aload_n 0, 1) := by decide +kernel
theorem dX11_head_6 : decode cX11_head 6 = .ok (.iload_n 1, 1) := by decide +kernel
theorem dX11_head_7 : decode cX11_head 7 = .ok (.invokevirtual 124, 3) := by decide +kernel
theorem dX11_head_10 : decode cX11_head 10 = .ok (.ifCond .ne 8, 3) := by decide +kernel
theorem dX11_head_13 : decode cX11_head 13 = .ok (.aload_n 0, 1) := by decide +kernel
theorem dX11_head_14 : decode cX11_head 14 = .ok (.invokevirtual 127, 3) := by decide +kernel
theorem dX11_head_17 : decode cX11_head 17 = .ok (.ireturn, 1) := by decide +kernel
theorem dX11_head_18 : decode cX11_head 18 = .ok (.aload_n 0, 1) := by decide +kernel
theorem dX11_head_19 : decode cX11_head 19 = .ok (.iload_n 2, 1) := by decide +kernel
theorem dX11_head_20 : decode cX11_head 20 = .ok (.invokevirtual 156, 3) := by decide +kernel
theorem dX11_head_23 : decode cX11_head 23 = .ok (.iload_n 1, 1) := by decide +kernel
theorem dX11_head_24 : decode cX11_head 24 = .ok (.istore_n 3, 1) := by decide +kernel
theorem dX11_head_25 : decode cX11_head 25 = .ok (.iload_n 3, 1) := by decide +kernel
theorem dX11_head_26 : decode cX11_head 26 = .ok (.iconst (-1), 1) := by decide +kernel
theorem dX11_head_27 : decode cX11_head 27 = .ok (.if_icmp .eq 90, 3) := by decide +kernel
theorem dX11_head_30 : decode cX11_head 30 = .ok (.aload_n 0, 1) := by decide +kernel
theorem dX11_head_31 : decode cX11_head 31 = .ok (.iload_n 3, 1) := by decide +kernel
theorem dX11_head_32 : decode cX11_head 32 = .ok (.iload_n 2, 1) := by decide +kernel
theorem dX11_head_33 : decode cX11_head 33 = .ok (.invokevirtual 131, 3) := by decide +kernel
theorem dX11_head_36 : decode cX11_head 36 = .ok (.ifCond .ne 81, 3) := by decide +kernel
theorem dX11_head_39 : decode cX11_head 39 = .ok (.iconst (-1), 1) := by decide +kernel
theorem dX11_head_40 : decode cX11_head 40 = .ok (.istore 4, 2) := by decide +kernel
theorem dX11_head_42 : decode cX11_head 42 = .ok (.iconst 0, 1) := by decide +kernel
theorem dX11_head_43 : decode cX11_head 43 = .ok (.istore 5, 2) := by decide +kernel
theorem dX11_head_45 : decode cX11_head 45 = .ok (.iload 5, 2) := by decide +kernel
theorem dX11_head_47 : decode cX11_head 47 = .ok (.aload_n 0, 1) := by decide +kernel
theorem dX11_head_48 : decode cX11_head 48 = .ok (.getfield 113, 3) := by decide +kernel
theorem dX11_head_51 : decode cX11_head 51 = .ok (.if_icmp .ge 60, 3) := by decide +kernel
theorem dX11_head_54 : decode cX11_head 54 = .ok (.aload_n 0, 1) := by decide +kernel
theorem dX11_head_55 : decode cX11_head 55 = .ok (.iload 5, 2) := by decide +kernel
theorem dX11_head_57 : decode cX11_head 57 = .ok (.iload_n 3, 1) := by decide +kernel
theorem dX11_head_58 : decode cX11_head 58 = .ok (.invokevirtual 138, 3) := by decide +kernel
theorem dX11_head_61 : decode cX11_head 61 = .ok (.ifCond .eq 44, 3) := by decide +kernel
theorem dX11_head_64 : decode cX11_head 64 = .ok (.aload_n 0, 1) := by decide +kernel
theorem dX11_head_65 : decode cX11_head 65 = .ok (.getfield 35, 3) := by decide +kernel
theorem dX11_head_68 : decode cX11_head 68 = .ok (.iload 5, 2) := by decide +kernel
theorem dX11_head_70 : decode cX11_head 70 = .ok (.baload, 1) := by decide +kernel
theorem dX11_head_71 : decode cX11_head 71 = .ok (.ifCond .ne 34, 3) := by decide +kernel
theorem dX11_head_74 : decode cX11_head 74 = .ok (.aload_n 0, 1) := by decide +kernel
theorem dX11_head_75 : decode cX11_head 75 = .ok (.getfield 93, 3) := by decide +kernel
theorem dX11_head_78 : decode cX11_head 78 = .ok (.iload 5, 2) := by decide +kernel
theorem dX11_head_80 : decode cX11_head 80 = .ok (.baload, 1) := by decide +kernel
theorem dX11_head_81 : decode cX11_head 81 = .ok (.ifCond .eq 24, 3) := by decide +kernel
theorem dX11_head_84 : decode cX11_head 84 = .ok (.iload 4, 2) := by decide +kernel
theorem dX11_head_86 : decode cX11_head 86 = .ok (.iconst (-1), 1) := by decide +kernel
theorem dX11_head_87 : decode cX11_head 87 = .ok (.if_icmp .eq 14, 3) := by decide +kernel
theorem dX11_head_90 : decode cX11_head 90 = .ok (.aload_n 0, 1) := by decide +kernel
theorem dX11_head_91 : decode cX11_head 91 = .ok (.iload 5, 2) := by decide +kernel
theorem dX11_head_93 : decode cX11_head 93 = .ok (.iload 4, 2) := by decide +kernel
theorem dX11_head_95 : decode cX11_head 95 = .ok (.invokevirtual 153, 3) := by decide +kernel
theorem dX11_head_98 : decode cX11_head 98 = .ok (.ifCond .eq 7, 3) := by decide +kernel
theorem dX11_head_101 : decode cX11_head 101 = .ok (.iload 5, 2) := by decide +kernel
theorem dX11_head_103 : decode cX11_head 103 = .ok (.istore 4, 2) := by decide +kernel
theorem dX11_head_105 : decode cX11_head 105 = .ok (.iinc 5 1, 3) := by decide +kernel
theorem dX11_head_108 : decode cX11_head 108 = .ok (.goto (-63), 3) := by decide +kernel
theorem dX11_head_111 : decode cX11_head 111 = .ok (.iload 4, 2) := by decide +kernel
theorem dX11_head_113 : decode cX11_head 113 = .ok (.istore_n 3, 1) := by decide +kernel
theorem dX11_head_114 : decode cX11_head 114 = .ok (.goto (-89), 3) := by decide +kernel
theorem dX11_head_117 : decode cX11_head 117 = .ok (.iload_n 3, 1) := by decide +kernel
theorem dX11_head_118 : decode cX11_head 118 = .ok (.ireturn, 1) := by decide +kernel
theorem dX11_put_0 : decode cX11_put 0 = .ok (.aload_n 0, 1) := by decide +kernel
theorem dX11_put_1 : decode cX11_put 1 = .ok (.getfield 99, 3) := by decide +kernel
theorem dX11_put_4 : decode cX11_put 4 = .ok (.iload_n 1, 1) := by decide +kernel
theorem dX11_put_5 : decode cX11_put 5 = .ok (.iaload, 1) := by decide +kernel
theorem dX11_put_6 : decode cX11_put 6 = .ok (.bipush 12, 2) := by decide +kernel
theorem dX11_put_8 : decode cX11_put 8 = .ok (.if_icmp .ne 7, 3) := by decide +kernel
theorem dX11_put_11 : decode cX11_put 11 = .ok (.iconst 1, 1) := by decide +kernel
theorem dX11_put_12 : decode cX11_put 12 = .ok (.goto 4, 3) := by decide +kernel
theorem dX11_put_15 : decode cX11_put 15 = .ok (.iconst 0, 1) := by decide +kernel
theorem dX11_put_16 : decode cX11_put 16 = .ok (.istore_n 3, 1) := by decide +kernel
theorem dX11_put_17 : decode cX11_put 17 = .ok (.iconst 0, 1) := by decide +kernel
theorem dX11_put_18 : decode cX11_put 18 = .ok (.istore 4, 2) := by decide +kernel
theorem dX11_put_20 : decode cX11_put 20 = .ok (.iload 4, 2) := by decide +kernel
theorem dX11_put_22 : decode cX11_put 22 = .ok (.aload_n 0, 1) := by decide +kernel
theorem dX11_put_23 : decode cX11_put 23 = .ok (.getfield 99, 3) := by decide +kernel
theorem dX11_put_26 : decode cX11_put 26 = .ok (.iload_n 1, 1) := by decide +kernel
theorem dX11_put_27 : decode cX11_put 27 = .ok (.iaload, 1) := by decide +kernel
theorem dX11_put_28 : decode cX11_put 28 = .ok (.if_icmp .ge 35, 3) := by decide +kernel
theorem dX11_put_31 : decode cX11_put 31 = .ok (.iload_n 3, 1) := by decide +kernel
theorem dX11_put_32 : decode cX11_put 32 = .ok (.ifCond .ne 19, 3) := by decide +kernel
theorem dX11_put_35 : decode cX11_put 35 = .ok (.aload_n 0, 1) := by decide +kernel
theorem dX11_put_36 : decode cX11_put 36 = .ok (.getfield 102, 3) := by decide +kernel
theorem dX11_put_39 : decode cX11_put 39 = .ok (.bipush 12, 2) := by decide +kernel
theorem dX11_put_41 : decode cX11_put 41 = .ok (.iload_n 1, 1) := by decide +kernel
theorem dX11_put_42 : decode cX11_put 42 = .ok (.imul, 1) := by decide +kernel
theorem dX11_put_43 : decode cX11_put 43 = .ok (.iload 4, 2) := by decide +kernel
theorem dX11_put_45 : decode cX11_put 45 = .ok (.iadd, 1) := by decide +kernel
theorem dX11_put_46 : decode cX11_put 46 = .ok (.iaload, 1) := by decide +kernel
theorem dX11_put_47 : decode cX11_put 47 = .ok (.iload_n 2, 1) := by decide +kernel
theorem dX11_put_48 : decode cX11_put 48 = .ok (.if_icmp .ne 7, 3) := by decide +kernel
theorem dX11_put_51 : decode cX11_put 51 = .ok (.iconst 1, 1) := by decide +kernel
theorem dX11_put_52 : decode cX11_put 52 = .ok (.goto 4, 3) := by decide +kernel
theorem dX11_put_55 : decode cX11_put 55 = .ok (.iconst 0, 1) := by decide +kernel
theorem dX11_put_56 : decode cX11_put 56 = .ok (.istore_n 3, 1) := by decide +kernel
theorem dX11_put_57 : decode cX11_put 57 = .ok (.iinc 4 1, 3) := by decide +kernel
theorem dX11_put_60 : decode cX11_put 60 = .ok (.goto (-40), 3) := by decide +kernel
theorem dX11_put_63 : decode cX11_put 63 = .ok (.iload_n 3, 1) := by decide +kernel
theorem dX11_put_64 : decode cX11_put 64 = .ok (.ifCond .eq 4, 3) := by decide +kernel
theorem dX11_put_67 : decode cX11_put 67 = .ok (.return_, 1) := by decide +kernel
theorem dX11_put_68 : decode cX11_put 68 = .ok (.aload_n 0, 1) := by decide +kernel
theorem dX11_put_69 : decode cX11_put 69 = .ok (.getfield 102, 3) := by decide +kernel
theorem dX11_put_72 : decode cX11_put 72 = .ok (.bipush 12, 2) := by decide +kernel
theorem dX11_put_74 : decode cX11_put 74 = .ok (.iload_n 1, 1) := by decide +kernel
theorem dX11_put_75 : decode cX11_put 75 = .ok (.imul, 1) := by decide +kernel
theorem dX11_put_76 : decode cX11_put 76 = .ok (.aload_n 0, 1) := by decide +kernel
theorem dX11_put_77 : decode cX11_put 77 = .ok (.getfield 99, 3) := by decide +kernel
theorem dX11_put_80 : decode cX11_put 80 = .ok (.iload_n 1, 1) := by decide +kernel
theorem dX11_put_81 : decode cX11_put 81 = .ok (.iaload, 1) := by decide +kernel
theorem dX11_put_82 : decode cX11_put 82 = .ok (.iadd, 1) := by decide +kernel
theorem dX11_put_83 : decode cX11_put 83 = .ok (.iload_n 2, 1) := by decide +kernel
theorem dX11_put_84 : decode cX11_put 84 = .ok (.iastore, 1) := by decide +kernel
theorem dX11_put_85 : decode cX11_put 85 = .ok (.aload_n 0, 1) := by decide +kernel
theorem dX11_put_86 : decode cX11_put 86 = .ok (.getfield 99, 3) := by decide +kernel
theorem dX11_put_89 : decode cX11_put 89 = .ok (.iload_n 1, 1) := by decide +kernel
theorem dX11_put_90 : decode cX11_put 90 = .ok (.dup2, 1) := by decide +kernel
theorem dX11_put_91 : decode cX11_put 91 = .ok (.iaload, 1) := by decide +kernel
theorem dX11_put_92 : decode cX11_put 92 = .ok (.iconst 1, 1) := by decide +kernel
theorem dX11_put_93 : decode cX11_put 93 = .ok (.iadd, 1) := by decide +kernel
theorem dX11_put_94 : decode cX11_put 94 = .ok (.iastore, 1) := by decide +kernel
theorem dX11_put_95 : decode cX11_put 95 = .ok (.return_, 1) := by decide +kernel
theorem dX11_brings_0 : decode cX11_brings 0 = .ok (.aload_n 0, 1) := by decide +kernel
theorem dX11_brings_1 : decode cX11_brings 1 = .ok (.iload_n 1, 1) := by decide +kernel
theorem dX11_brings_2 : decode cX11_brings 2 = .ok (.iload_n 2, 1) := by decide +kernel
theorem dX11_brings_3 : decode cX11_brings 3 = .ok (.invokevirtual 175, 3) := by decide +kernel
theorem dX11_brings_6 : decode cX11_brings 6 = .ok (.ifCond .ne 25, 3) := by decide +kernel
theorem dX11_brings_9 : decode cX11_brings 9 = .ok (.aload_n 0, 1) := by decide +kernel
theorem dX11_brings_10 : decode cX11_brings 10 = .ok (.iload_n 1, 1) := by decide +kernel
theorem dX11_brings_11 : decode cX11_brings 11 = .ok (.invokevirtual 120, 3) := by decide +kernel
theorem dX11_brings_14 : decode cX11_brings 14 = .ok (.iload_n 2, 1) := by decide +kernel
theorem dX11_brings_15 : decode cX11_brings 15 = .ok (.if_icmp .gt 20, 3) := by decide +kernel
theorem dX11_brings_18 : decode cX11_brings 18 = .ok (.aload_n 0, 1) := by decide +kernel
theorem dX11_brings_19 : decode cX11_brings 19 = .ok (.iload_n 1, 1) := by decide +kernel
theorem dX11_brings_20 : decode cX11_brings 20 = .ok (.aload_n 0, 1) := by decide +kernel
theorem dX11_brings_21 : decode cX11_brings 21 = .ok (.iload_n 1, 1) := by decide +kernel
theorem dX11_brings_22 : decode cX11_brings 22 = .ok (.invokevirtual 120, 3) := by decide +kernel
theorem dX11_brings_25 : decode cX11_brings 25 = .ok (.invokevirtual 175, 3) := by decide +kernel
theorem dX11_brings_28 : decode cX11_brings 28 = .ok (.ifCond .eq 7, 3) := by decide +kernel
theorem dX11_brings_31 : decode cX11_brings 31 = .ok (.iconst 1, 1) := by decide +kernel
theorem dX11_brings_32 : decode cX11_brings 32 = .ok (.goto 4, 3) := by decide +kernel
end
section
theorem dX11_brings_35 : decode cX11_brings 35 = .ok (.iconst 0, 1) := by decide +kernel
theorem dX11_brings_36 : decode cX11_brings 36 = .ok (.ireturn, 1) := by decide +kernel
theorem dX11_quartersOf_0 : decode cX11_quartersOf 0 = .ok (.iconst 0, 1) := by decide +kernel
theorem dX11_quartersOf_1 : decode cX11_quartersOf 1 = .ok (.istore_n 3, 1) := by decide +kernel
theorem dX11_quartersOf_2 : decode cX11_quartersOf 2 = .ok (.iload_n 3, 1) := by decide +kernel
theorem dX11_quartersOf_3 : decode cX11_quartersOf 3 = .ok (.iload_n 1, 1) := by decide +kernel
theorem dX11_quartersOf_4 : decode cX11_quartersOf 4 = .ok (.if_icmp .gt 156, 3) := by decide +kernel
theorem dX11_quartersOf_7 : decode cX11_quartersOf 7 = .ok (.aload_n 0, 1) := by decide +kernel
theorem dX11_quartersOf_8 : decode cX11_quartersOf 8 = .ok (.getfield 99, 3) := by decide +kernel
theorem dX11_quartersOf_11 : decode cX11_quartersOf 11 = .ok (.iload_n 3, 1) := by decide +kernel
theorem dX11_quartersOf_12 : decode cX11_quartersOf 12 = .ok (.iconst 0, 1) := by decide +kernel
theorem dX11_quartersOf_13 : decode cX11_quartersOf 13 = .ok (.iastore, 1) := by decide +kernel
theorem dX11_quartersOf_14 : decode cX11_quartersOf 14 = .ok (.aload_n 0, 1) := by decide +kernel
theorem dX11_quartersOf_15 : decode cX11_quartersOf 15 = .ok (.getfield 45, 3) := by decide +kernel
theorem dX11_quartersOf_18 : decode cX11_quartersOf 18 = .ok (.iload_n 3, 1) := by decide +kernel
theorem dX11_quartersOf_19 : decode cX11_quartersOf 19 = .ok (.iaload, 1) := by decide +kernel
theorem dX11_quartersOf_20 : decode cX11_quartersOf 20 = .ok (.istore 4, 2) := by decide +kernel
theorem dX11_quartersOf_22 : decode cX11_quartersOf 22 = .ok (.iconst 0, 1) := by decide +kernel
theorem dX11_quartersOf_23 : decode cX11_quartersOf 23 = .ok (.istore 5, 2) := by decide +kernel
theorem dX11_quartersOf_25 : decode cX11_quartersOf 25 = .ok (.iload 4, 2) := by decide +kernel
theorem dX11_quartersOf_27 : decode cX11_quartersOf 27 = .ok (.iconst (-1), 1) := by decide +kernel
theorem dX11_quartersOf_28 : decode cX11_quartersOf 28 = .ok (.if_icmp .eq 39, 3) := by decide +kernel
theorem dX11_quartersOf_31 : decode cX11_quartersOf 31 = .ok (.iload 5, 2) := by decide +kernel
theorem dX11_quartersOf_33 : decode cX11_quartersOf 33 = .ok (.aload_n 0, 1) := by decide +kernel
theorem dX11_quartersOf_34 : decode cX11_quartersOf 34 = .ok (.getfield 99, 3) := by decide +kernel
theorem dX11_quartersOf_37 : decode cX11_quartersOf 37 = .ok (.iload 4, 2) := by decide +kernel
theorem dX11_quartersOf_39 : decode cX11_quartersOf 39 = .ok (.iaload, 1) := by decide +kernel
theorem dX11_quartersOf_40 : decode cX11_quartersOf 40 = .ok (.if_icmp .ge 27, 3) := by decide +kernel
theorem dX11_quartersOf_43 : decode cX11_quartersOf 43 = .ok (.aload_n 0, 1) := by decide +kernel
theorem dX11_quartersOf_44 : decode cX11_quartersOf 44 = .ok (.iload_n 3, 1) := by decide +kernel
theorem dX11_quartersOf_45 : decode cX11_quartersOf 45 = .ok (.aload_n 0, 1) := by decide +kernel
theorem dX11_quartersOf_46 : decode cX11_quartersOf 46 = .ok (.getfield 102, 3) := by decide +kernel
theorem dX11_quartersOf_49 : decode cX11_quartersOf 49 = .ok (.bipush 12, 2) := by decide +kernel
theorem dX11_quartersOf_51 : decode cX11_quartersOf 51 = .ok (.iload 4, 2) := by decide +kernel
theorem dX11_quartersOf_53 : decode cX11_quartersOf 53 = .ok (.imul, 1) := by decide +kernel
theorem dX11_quartersOf_54 : decode cX11_quartersOf 54 = .ok (.iload 5, 2) := by decide +kernel
theorem dX11_quartersOf_56 : decode cX11_quartersOf 56 = .ok (.iadd, 1) := by decide +kernel
theorem dX11_quartersOf_57 : decode cX11_quartersOf 57 = .ok (.iaload, 1) := by decide +kernel
theorem dX11_quartersOf_58 : decode cX11_quartersOf 58 = .ok (.invokevirtual 181, 3) := by decide +kernel
theorem dX11_quartersOf_61 : decode cX11_quartersOf 61 = .ok (.iinc 5 1, 3) := by decide +kernel
theorem dX11_quartersOf_64 : decode cX11_quartersOf 64 = .ok (.goto (-39), 3) := by decide +kernel
theorem dX11_quartersOf_67 : decode cX11_quartersOf 67 = .ok (.aload_n 0, 1) := by decide +kernel
theorem dX11_quartersOf_68 : decode cX11_quartersOf 68 = .ok (.iload_n 3, 1) := by decide +kernel
theorem dX11_quartersOf_69 : decode cX11_quartersOf 69 = .ok (.iload_n 2, 1) := by decide +kernel
theorem dX11_quartersOf_70 : decode cX11_quartersOf 70 = .ok (.invokevirtual 141, 3) := by decide +kernel
theorem dX11_quartersOf_73 : decode cX11_quartersOf 73 = .ok (.istore 5, 2) := by decide +kernel
theorem dX11_quartersOf_75 : decode cX11_quartersOf 75 = .ok (.iload 5, 2) := by decide +kernel
theorem dX11_quartersOf_77 : decode cX11_quartersOf 77 = .ok (.iconst (-1), 1) := by decide +kernel
theorem dX11_quartersOf_78 : decode cX11_quartersOf 78 = .ok (.if_icmp .eq 10, 3) := by decide +kernel
theorem dX11_quartersOf_81 : decode cX11_quartersOf 81 = .ok (.aload_n 0, 1) := by decide +kernel
theorem dX11_quartersOf_82 : decode cX11_quartersOf 82 = .ok (.iload_n 3, 1) := by decide +kernel
theorem dX11_quartersOf_83 : decode cX11_quartersOf 83 = .ok (.iload 5, 2) := by decide +kernel
theorem dX11_quartersOf_85 : decode cX11_quartersOf 85 = .ok (.invokevirtual 181, 3) := by decide +kernel
theorem dX11_quartersOf_88 : decode cX11_quartersOf 88 = .ok (.aload_n 0, 1) := by decide +kernel
theorem dX11_quartersOf_89 : decode cX11_quartersOf 89 = .ok (.getfield 48, 3) := by decide +kernel
theorem dX11_quartersOf_92 : decode cX11_quartersOf 92 = .ok (.iload_n 3, 1) := by decide +kernel
theorem dX11_quartersOf_93 : decode cX11_quartersOf 93 = .ok (.iaload, 1) := by decide +kernel
theorem dX11_quartersOf_94 : decode cX11_quartersOf 94 = .ok (.istore 6, 2) := by decide +kernel
theorem dX11_quartersOf_96 : decode cX11_quartersOf 96 = .ok (.iload 6, 2) := by decide +kernel
theorem dX11_quartersOf_98 : decode cX11_quartersOf 98 = .ok (.iconst (-1), 1) := by decide +kernel
theorem dX11_quartersOf_99 : decode cX11_quartersOf 99 = .ok (.if_icmp .eq 55, 3) := by decide +kernel
theorem dX11_quartersOf_102 : decode cX11_quartersOf 102 = .ok (.aload_n 0, 1) := by decide +kernel
theorem dX11_quartersOf_103 : decode cX11_quartersOf 103 = .ok (.iload 6, 2) := by decide +kernel
theorem dX11_quartersOf_105 : decode cX11_quartersOf 105 = .ok (.iload_n 2, 1) := by decide +kernel
theorem dX11_quartersOf_106 : decode cX11_quartersOf 106 = .ok (.invokevirtual 185, 3) := by decide +kernel
theorem dX11_quartersOf_109 : decode cX11_quartersOf 109 = .ok (.ifCond .ne 6, 3) := by decide +kernel
theorem dX11_quartersOf_112 : decode cX11_quartersOf 112 = .ok (.goto 42, 3) := by decide +kernel
theorem dX11_quartersOf_115 : decode cX11_quartersOf 115 = .ok (.iconst 0, 1) := by decide +kernel
theorem dX11_quartersOf_116 : decode cX11_quartersOf 116 = .ok (.istore 7, 2) := by decide +kernel
theorem dX11_quartersOf_118 : decode cX11_quartersOf 118 = .ok (.iload 7, 2) := by decide +kernel
theorem dX11_quartersOf_120 : decode cX11_quartersOf 120 = .ok (.aload_n 0, 1) := by decide +kernel
theorem dX11_quartersOf_121 : decode cX11_quartersOf 121 = .ok (.getfield 99, 3) := by decide +kernel
theorem dX11_quartersOf_124 : decode cX11_quartersOf 124 = .ok (.iload 6, 2) := by decide +kernel
theorem dX11_quartersOf_126 : decode cX11_quartersOf 126 = .ok (.iaload, 1) := by decide +kernel
theorem dX11_quartersOf_127 : decode cX11_quartersOf 127 = .ok (.if_icmp .ge 27, 3) := by decide +kernel
theorem dX11_quartersOf_130 : decode cX11_quartersOf 130 = .ok (.aload_n 0, 1) := by decide +kernel
theorem dX11_quartersOf_131 : decode cX11_quartersOf 131 = .ok (.iload_n 3, 1) := by decide +kernel
theorem dX11_quartersOf_132 : decode cX11_quartersOf 132 = .ok (.aload_n 0, 1) := by decide +kernel
theorem dX11_quartersOf_133 : decode cX11_quartersOf 133 = .ok (.getfield 102, 3) := by decide +kernel
theorem dX11_quartersOf_136 : decode cX11_quartersOf 136 = .ok (.bipush 12, 2) := by decide +kernel
theorem dX11_quartersOf_138 : decode cX11_quartersOf 138 = .ok (.iload 6, 2) := by decide +kernel
theorem dX11_quartersOf_140 : decode cX11_quartersOf 140 = .ok (.imul, 1) := by decide +kernel
theorem dX11_quartersOf_141 : decode cX11_quartersOf 141 = .ok (.iload 7, 2) := by decide +kernel
theorem dX11_quartersOf_143 : decode cX11_quartersOf 143 = .ok (.iadd, 1) := by decide +kernel
theorem dX11_quartersOf_144 : decode cX11_quartersOf 144 = .ok (.iaload, 1) := by decide +kernel
theorem dX11_quartersOf_145 : decode cX11_quartersOf 145 = .ok (.invokevirtual 181, 3) := by decide +kernel
theorem dX11_quartersOf_148 : decode cX11_quartersOf 148 = .ok (.iinc 7 1, 3) := by decide +kernel
theorem dX11_quartersOf_151 : decode cX11_quartersOf 151 = .ok (.goto (-33), 3) := by decide +kernel
theorem dX11_quartersOf_154 : decode cX11_quartersOf 154 = .ok (.iinc 3 1, 3) := by decide +kernel
theorem dX11_quartersOf_157 : decode cX11_quartersOf 157 = .ok (.goto (-155), 3) := by decide +kernel
theorem dX11_quartersOf_160 : decode cX11_quartersOf 160 = .ok (.aload_n 0, 1) := by decide +kernel
theorem dX11_quartersOf_161 : decode cX11_quartersOf 161 = .ok (.getfield 99, 3) := by decide +kernel
theorem dX11_quartersOf_164 : decode cX11_quartersOf 164 = .ok (.iload_n 1, 1) := by decide +kernel
theorem dX11_quartersOf_165 : decode cX11_quartersOf 165 = .ok (.iaload, 1) := by decide +kernel
theorem dX11_quartersOf_166 : decode cX11_quartersOf 166 = .ok (.ireturn, 1) := by decide +kernel
theorem dX11_quarter_0 : decode cX11_quarter 0 = .ok (.aload_n 0, 1) := by decide +kernel
theorem dX11_quarter_1 : decode cX11_quarter 1 = .ok (.iconst 0, 1) := by decide +kernel
theorem dX11_quarter_2 : decode cX11_quarter 2 = .ok (.putfield 110, 3) := by decide +kernel
theorem dX11_quarter_5 : decode cX11_quarter 5 = .ok (.aload_n 0, 1) := by decide +kernel
theorem dX11_quarter_6 : decode cX11_quarter 6 = .ok (.iload_n 1, 1) := by decide +kernel
theorem dX11_quarter_7 : decode cX11_quarter 7 = .ok (.invokevirtual 124, 3) := by decide +kernel
theorem dX11_quarter_10 : decode cX11_quarter 10 = .ok (.ifCond .ne 8, 3) := by decide +kernel
theorem dX11_quarter_13 : decode cX11_quarter 13 = .ok (.aload_n 0, 1) := by decide +kernel
theorem dX11_quarter_14 : decode cX11_quarter 14 = .ok (.invokevirtual 127, 3) := by decide +kernel
theorem dX11_quarter_17 : decode cX11_quarter 17 = .ok (.ireturn, 1) := by decide +kernel
theorem dX11_quarter_18 : decode cX11_quarter 18 = .ok (.aload_n 0, 1) := by decide +kernel
theorem dX11_quarter_19 : decode cX11_quarter 19 = .ok (.iload_n 1, 1) := by decide +kernel
theorem dX11_quarter_20 : decode cX11_quarter 20 = .ok (.iload_n 2, 1) := by decide +kernel
theorem dX11_quarter_21 : decode cX11_quarter 21 = .ok (.invokevirtual 188, 3) := by decide +kernel
theorem dX11_quarter_24 : decode cX11_quarter 24 = .ok (.istore 4, 2) := by decide +kernel
theorem dX11_quarter_26 : decode cX11_quarter 26 = .ok (.iload_n 3, 1) := by decide +kernel
theorem dX11_quarter_27 : decode cX11_quarter 27 = .ok (.iconst (-1), 1) := by decide +kernel
theorem dX11_quarter_28 : decode cX11_quarter 28 = .ok (.if_icmp .ne 8, 3) := by decide +kernel
theorem dX11_quarter_31 : decode cX11_quarter 31 = .ok (.iload 4, 2) := by decide +kernel
theorem dX11_quarter_33 : decode cX11_quarter 33 = .ok (.goto 31, 3) := by decide +kernel
theorem dX11_quarter_36 : decode cX11_quarter 36 = .ok (.iload_n 3, 1) := by decide +kernel
theorem dX11_quarter_37 : decode cX11_quarter 37 = .ok (.ifCond .lt 9, 3) := by decide +kernel
theorem dX11_quarter_40 : decode cX11_quarter 40 = .ok (.iload_n 3, 1) := by decide +kernel
theorem dX11_quarter_41 : decode cX11_quarter 41 = .ok (.iload 4, 2) := by decide +kernel
theorem dX11_quarter_43 : decode cX11_quarter 43 = .ok (.if_icmp .lt 10, 3) := by decide +kernel
theorem dX11_quarter_46 : decode cX11_quarter 46 = .ok (.aload_n 0, 1) := by decide +kernel
theorem dX11_quarter_47 : decode cX11_quarter 47 = .ok (.invokevirtual 127, 3) := by decide +kernel
theorem dX11_quarter_50 : decode cX11_quarter 50 = .ok (.goto 14, 3) := by decide +kernel
theorem dX11_quarter_53 : decode cX11_quarter 53 = .ok (.aload_n 0, 1) := by decide +kernel
theorem dX11_quarter_54 : decode cX11_quarter 54 = .ok (.getfield 102, 3) := by decide +kernel
theorem dX11_quarter_57 : decode cX11_quarter 57 = .ok (.bipush 12, 2) := by decide +kernel
theorem dX11_quarter_59 : decode cX11_quarter 59 = .ok (.iload_n 1, 1) := by decide +kernel
theorem dX11_quarter_60 : decode cX11_quarter 60 = .ok (.imul, 1) := by decide +kernel
theorem dX11_quarter_61 : decode cX11_quarter 61 = .ok (.iload_n 3, 1) := by decide +kernel
theorem dX11_quarter_62 : decode cX11_quarter 62 = .ok (.iadd, 1) := by decide +kernel
theorem dX11_quarter_63 : decode cX11_quarter 63 = .ok (.iaload, 1) := by decide +kernel
theorem dX11_quarter_64 : decode cX11_quarter 64 = .ok (.ireturn, 1) := by decide +kernel
theorem dX11_rivalsOf_0 : decode cX11_rivalsOf 0 = .ok (.aload_n 0, 1) := by decide +kernel
theorem dX11_rivalsOf_1 : decode cX11_rivalsOf 1 = .ok (.iload_n 1, 1) := by decide +kernel
theorem dX11_rivalsOf_2 : decode cX11_rivalsOf 2 = .ok (.iload_n 2, 1) := by decide +kernel
theorem dX11_rivalsOf_3 : decode cX11_rivalsOf 3 = .ok (.invokevirtual 145, 3) := by decide +kernel
theorem dX11_rivalsOf_6 : decode cX11_rivalsOf 6 = .ok (.istore_n 3, 1) := by decide +kernel
theorem dX11_rivalsOf_7 : decode cX11_rivalsOf 7 = .ok (.iconst 0, 1) := by decide +kernel
theorem dX11_rivalsOf_8 : decode cX11_rivalsOf 8 = .ok (.istore 4, 2) := by decide +kernel
theorem dX11_rivalsOf_10 : decode cX11_rivalsOf 10 = .ok (.iconst 0, 1) := by decide +kernel
theorem dX11_rivalsOf_11 : decode cX11_rivalsOf 11 = .ok (.istore 5, 2) := by decide +kernel
theorem dX11_rivalsOf_13 : decode cX11_rivalsOf 13 = .ok (.iload 5, 2) := by decide +kernel
theorem dX11_rivalsOf_15 : decode cX11_rivalsOf 15 = .ok (.aload_n 0, 1) := by decide +kernel
theorem dX11_rivalsOf_16 : decode cX11_rivalsOf 16 = .ok (.getfield 113, 3) := by decide +kernel
theorem dX11_rivalsOf_19 : decode cX11_rivalsOf 19 = .ok (.if_icmp .ge 46, 3) := by decide +kernel
theorem dX11_rivalsOf_22 : decode cX11_rivalsOf 22 = .ok (.iload_n 3, 1) := by decide +kernel
theorem dX11_rivalsOf_23 : decode cX11_rivalsOf 23 = .ok (.iconst (-1), 1) := by decide +kernel
theorem dX11_rivalsOf_24 : decode cX11_rivalsOf 24 = .ok (.if_icmp .eq 41, 3) := by decide +kernel
theorem dX11_rivalsOf_27 : decode cX11_rivalsOf 27 = .ok (.iload 4, 2) := by decide +kernel
theorem dX11_rivalsOf_29 : decode cX11_rivalsOf 29 = .ok (.iload 5, 2) := by decide +kernel
theorem dX11_rivalsOf_31 : decode cX11_rivalsOf 31 = .ok (.iload_n 3, 1) := by decide +kernel
theorem dX11_rivalsOf_32 : decode cX11_rivalsOf 32 = .ok (.if_icmp .eq 23, 3) := by decide +kernel
theorem dX11_rivalsOf_35 : decode cX11_rivalsOf 35 = .ok (.aload_n 0, 1) := by decide +kernel
theorem dX11_rivalsOf_36 : decode cX11_rivalsOf 36 = .ok (.iload 5, 2) := by decide +kernel
theorem dX11_rivalsOf_38 : decode cX11_rivalsOf 38 = .ok (.iload_n 2, 1) := by decide +kernel
theorem dX11_rivalsOf_39 : decode cX11_rivalsOf 39 = .ok (.invokevirtual 141, 3) := by decide +kernel
theorem dX11_rivalsOf_42 : decode cX11_rivalsOf 42 = .ok (.aload_n 0, 1) := by decide +kernel
theorem dX11_rivalsOf_43 : decode cX11_rivalsOf 43 = .ok (.iload_n 3, 1) := by decide +kernel
theorem dX11_rivalsOf_44 : decode cX11_rivalsOf 44 = .ok (.iload_n 2, 1) := by decide +kernel
theorem dX11_rivalsOf_45 : decode cX11_rivalsOf 45 = .ok (.invokevirtual 141, 3) := by decide +kernel
theorem dX11_rivalsOf_48 : decode cX11_rivalsOf 48 = .ok (.if_icmp .ne 7, 3) := by decide +kernel
theorem dX11_rivalsOf_51 : decode cX11_rivalsOf 51 = .ok (.iconst 1, 1) := by decide +kernel
theorem dX11_rivalsOf_52 : decode cX11_rivalsOf 52 = .ok (.goto 4, 3) := by decide +kernel
theorem dX11_rivalsOf_55 : decode cX11_rivalsOf 55 = .ok (.iconst 0, 1) := by decide +kernel
theorem dX11_rivalsOf_56 : decode cX11_rivalsOf 56 = .ok (.iadd, 1) := by decide +kernel
theorem dX11_rivalsOf_57 : decode cX11_rivalsOf 57 = .ok (.istore 4, 2) := by decide +kernel
theorem dX11_rivalsOf_59 : decode cX11_rivalsOf 59 = .ok (.iinc 5 1, 3) := by decide +kernel
theorem dX11_rivalsOf_62 : decode cX11_rivalsOf 62 = .ok (.goto (-49), 3) := by decide +kernel
theorem dX11_rivalsOf_65 : decode cX11_rivalsOf 65 = .ok (.iload 4, 2) := by decide +kernel
theorem dX11_rivalsOf_67 : decode cX11_rivalsOf 67 = .ok (.ireturn, 1) := by decide +kernel
theorem dX11_rivals_0 : decode cX11_rivals 0 = .ok (.aload_n 0, 1) := by decide +kernel
theorem dX11_rivals_1 : decode cX11_rivals 1 = .ok (.iconst 0, 1) := by decide +kernel
theorem dX11_rivals_2 : decode cX11_rivals 2 = .ok (.putfield 110, 3) := by decide +kernel
theorem dX11_rivals_5 : decode cX11_rivals 5 = .ok (.aload_n 0, 1) := by decide +kernel
theorem dX11_rivals_6 : decode cX11_rivals 6 = .ok (.iload_n 1, 1) := by decide +kernel
theorem dX11_rivals_7 : decode cX11_rivals 7 = .ok (.invokevirtual 124, 3) := by decide +kernel
theorem dX11_rivals_10 : decode cX11_rivals 10 = .ok (.ifCond .eq 12, 3) := by decide +kernel
theorem dX11_rivals_13 : decode cX11_rivals 13 = .ok (.aload_n 0, 1) := by decide +kernel
theorem dX11_rivals_14 : decode cX11_rivals 14 = .ok (.iload_n 1, 1) := by decide +kernel
theorem dX11_rivals_15 : decode cX11_rivals 15 = .ok (.iload_n 2, 1) := by decide +kernel
theorem dX11_rivals_16 : decode cX11_rivals 16 = .ok (.invokevirtual 191, 3) := by decide +kernel
theorem dX11_rivals_19 : decode cX11_rivals 19 = .ok (.goto 7, 3) := by decide +kernel
theorem dX11_rivals_22 : decode cX11_rivals 22 = .ok (.aload_n 0, 1) := by decide +kernel
theorem dX11_rivals_23 : decode cX11_rivals 23 = .ok (.invokevirtual 127, 3) := by decide +kernel
theorem dX11_rivals_26 : decode cX11_rivals 26 = .ok (.ireturn, 1) := by decide +kernel
theorem dX11_up_0 : decode cX11_up 0 = .ok (.iconst 0, 1) := by decide +kernel
theorem dX11_up_1 : decode cX11_up 1 = .ok (.istore_n 2, 1) := by decide +kernel
theorem dX11_up_2 : decode cX11_up 2 = .ok (.iload_n 2, 1) := by decide +kernel
theorem dX11_up_3 : decode cX11_up 3 = .ok (.bipush 60, 2) := by decide +kernel
theorem dX11_up_5 : decode cX11_up 5 = .ok (.if_icmp .ge 25, 3) := by decide +kernel
theorem dX11_up_8 : decode cX11_up 8 = .ok (.aload_n 0, 1) := by decide +kernel
theorem dX11_up_9 : decode cX11_up 9 = .ok (.getfield 104, 3) := by decide +kernel
theorem dX11_up_12 : decode cX11_up 12 = .ok (.iload_n 2, 1) := by decide +kernel
theorem dX11_up_13 : decode cX11_up 13 = .ok (.iload_n 2, 1) := by decide +kernel
theorem dX11_up_14 : decode cX11_up 14 = .ok (.iload_n 1, 1) := by decide +kernel
theorem dX11_up_15 : decode cX11_up 15 = .ok (.if_icmp .ne 7, 3) := by decide +kernel
theorem dX11_up_18 : decode cX11_up 18 = .ok (.iconst 1, 1) := by decide +kernel
theorem dX11_up_19 : decode cX11_up 19 = .ok (.goto 4, 3) := by decide +kernel
theorem dX11_up_22 : decode cX11_up 22 = .ok (.iconst 0, 1) := by decide +kernel
theorem dX11_up_23 : decode cX11_up 23 = .ok (.bastore, 1) := by decide +kernel
theorem dX11_up_24 : decode cX11_up 24 = .ok (.iinc 2 1, 3) := by decide +kernel
theorem dX11_up_27 : decode cX11_up 27 = .ok (.goto (-25), 3) := by decide +kernel
theorem dX11_up_30 : decode cX11_up 30 = .ok (.iload_n 1, 1) := by decide +kernel
theorem dX11_up_31 : decode cX11_up 31 = .ok (.istore_n 2, 1) := by decide +kernel
theorem dX11_up_32 : decode cX11_up 32 = .ok (.iload_n 2, 1) := by decide +kernel
theorem dX11_up_33 : decode cX11_up 33 = .ok (.ifCond .lt 65, 3) := by decide +kernel
theorem dX11_up_36 : decode cX11_up 36 = .ok (.aload_n 0, 1) := by decide +kernel
theorem dX11_up_37 : decode cX11_up 37 = .ok (.getfield 104, 3) := by decide +kernel
theorem dX11_up_40 : decode cX11_up 40 = .ok (.iload_n 2, 1) := by decide +kernel
theorem dX11_up_41 : decode cX11_up 41 = .ok (.baload, 1) := by decide +kernel
theorem dX11_up_42 : decode cX11_up 42 = .ok (.ifCond .ne 6, 3) := by decide +kernel
theorem dX11_up_45 : decode cX11_up 45 = .ok (.goto 47, 3) := by decide +kernel
theorem dX11_up_48 : decode cX11_up 48 = .ok (.aload_n 0, 1) := by decide +kernel
theorem dX11_up_49 : decode cX11_up 49 = .ok (.getfield 45, 3) := by decide +kernel
theorem dX11_up_52 : decode cX11_up 52 = .ok (.iload_n 2, 1) := by decide +kernel
theorem dX11_up_53 : decode cX11_up 53 = .ok (.iaload, 1) := by decide +kernel
theorem dX11_up_54 : decode cX11_up 54 = .ok (.iconst (-1), 1) := by decide +kernel
theorem dX11_up_55 : decode cX11_up 55 = .ok (.if_icmp .eq 15, 3) := by decide +kernel
theorem dX11_up_58 : decode cX11_up 58 = .ok (.aload_n 0, 1) := by decide +kernel
theorem dX11_up_59 : decode cX11_up 59 = .ok (.getfield 104, 3) := by decide +kernel
theorem dX11_up_62 : decode cX11_up 62 = .ok (.aload_n 0, 1) := by decide +kernel
theorem dX11_up_63 : decode cX11_up 63 = .ok (.getfield 45, 3) := by decide +kernel
theorem dX11_up_66 : decode cX11_up 66 = .ok (.iload_n 2, 1) := by decide +kernel
theorem dX11_up_67 : decode cX11_up 67 = .ok (.iaload, 1) := by decide +kernel
theorem dX11_up_68 : decode cX11_up 68 = .ok (.iconst 1, 1) := by decide +kernel
theorem dX11_up_69 : decode cX11_up 69 = .ok (.bastore, 1) := by decide +kernel
theorem dX11_up_70 : decode cX11_up 70 = .ok (.aload_n 0, 1) := by decide +kernel
theorem dX11_up_71 : decode cX11_up 71 = .ok (.getfield 48, 3) := by decide +kernel
theorem dX11_up_74 : decode cX11_up 74 = .ok (.iload_n 2, 1) := by decide +kernel
theorem dX11_up_75 : decode cX11_up 75 = .ok (.iaload, 1) := by decide +kernel
theorem dX11_up_76 : decode cX11_up 76 = .ok (.iconst (-1), 1) := by decide +kernel
theorem dX11_up_77 : decode cX11_up 77 = .ok (.if_icmp .eq 15, 3) := by decide +kernel
theorem dX11_up_80 : decode cX11_up 80 = .ok (.aload_n 0, 1) := by decide +kernel
theorem dX11_up_81 : decode cX11_up 81 = .ok (.getfield 104, 3) := by decide +kernel
theorem dX11_up_84 : decode cX11_up 84 = .ok (.aload_n 0, 1) := by decide +kernel
theorem dX11_up_85 : decode cX11_up 85 = .ok (.getfield 48, 3) := by decide +kernel
theorem dX11_up_88 : decode cX11_up 88 = .ok (.iload_n 2, 1) := by decide +kernel
theorem dX11_up_89 : decode cX11_up 89 = .ok (.iaload, 1) := by decide +kernel
theorem dX11_up_90 : decode cX11_up 90 = .ok (.iconst 1, 1) := by decide +kernel
theorem dX11_up_91 : decode cX11_up 91 = .ok (.bastore, 1) := by decide +kernel
theorem dX11_up_92 : decode cX11_up 92 = .ok (.iinc 2 (-1), 3) := by decide +kernel
theorem dX11_up_95 : decode cX11_up 95 = .ok (.goto (-63), 3) := by decide +kernel
theorem dX11_up_98 : decode cX11_up 98 = .ok (.return_, 1) := by decide +kernel
theorem dX11_common_0 : decode cX11_common 0 = .ok (.aload_n 0, 1) := by decide +kernel
theorem dX11_common_1 : decode cX11_common 1 = .ok (.iconst 0, 1) := by decide +kernel
theorem dX11_common_2 : decode cX11_common 2 = .ok (.putfield 110, 3) := by decide +kernel
theorem dX11_common_5 : decode cX11_common 5 = .ok (.aload_n 0, 1) := by decide +kernel
theorem dX11_common_6 : decode cX11_common 6 = .ok (.iload_n 1, 1) := by decide +kernel
theorem dX11_common_7 : decode cX11_common 7 = .ok (.invokevirtual 124, 3) := by decide +kernel
theorem dX11_common_10 : decode cX11_common 10 = .ok (.ifCond .eq 11, 3) := by decide +kernel
theorem dX11_common_13 : decode cX11_common 13 = .ok (.aload_n 0, 1) := by decide +kernel
theorem dX11_common_14 : decode cX11_common 14 = .ok (.iload_n 2, 1) := by decide +kernel
theorem dX11_common_15 : decode cX11_common 15 = .ok (.invokevirtual 124, 3) := by decide +kernel
theorem dX11_common_18 : decode cX11_common 18 = .ok (.ifCond .ne 8, 3) := by decide +kernel
theorem dX11_common_21 : decode cX11_common 21 = .ok (.aload_n 0, 1) := by decide +kernel
theorem dX11_common_22 : decode cX11_common 22 = .ok (.invokevirtual 127, 3) := by decide +kernel
theorem dX11_common_25 : decode cX11_common 25 = .ok (.ireturn, 1) := by decide +kernel
theorem dX11_common_26 : decode cX11_common 26 = .ok (.aload_n 0, 1) := by decide +kernel
theorem dX11_common_27 : decode cX11_common 27 = .ok (.iload_n 1, 1) := by decide +kernel
theorem dX11_common_28 : decode cX11_common 28 = .ok (.invokevirtual 194, 3) := by decide +kernel
theorem dX11_common_31 : decode cX11_common 31 = .ok (.iconst 0, 1) := by decide +kernel
theorem dX11_common_32 : decode cX11_common 32 = .ok (.istore_n 3, 1) := by decide +kernel
theorem dX11_common_33 : decode cX11_common 33 = .ok (.iload_n 3, 1) := by decide +kernel
theorem dX11_common_34 : decode cX11_common 34 = .ok (.bipush 60, 2) := by decide +kernel
theorem dX11_common_36 : decode cX11_common 36 = .ok (.if_icmp .ge 21, 3) := by decide +kernel
theorem dX11_common_39 : decode cX11_common 39 = .ok (.aload_n 0, 1) := by decide +kernel
theorem dX11_common_40 : decode cX11_common 40 = .ok (.getfield 107, 3) := by decide +kernel
theorem dX11_common_43 : decode cX11_common 43 = .ok (.iload_n 3, 1) := by decide +kernel
theorem dX11_common_44 : decode cX11_common 44 = .ok (.aload_n 0, 1) := by decide +kernel
theorem dX11_common_45 : decode cX11_common 45 = .ok (.getfield 104, 3) := by decide +kernel
theorem dX11_common_48 : decode cX11_common 48 = .ok (.iload_n 3, 1) := by decide +kernel
theorem dX11_common_49 : decode cX11_common 49 = .ok (.baload, 1) := by decide +kernel
theorem dX11_common_50 : decode cX11_common 50 = .ok (.bastore, 1) := by decide +kernel
theorem dX11_common_51 : decode cX11_common 51 = .ok (.iinc 3 1, 3) := by decide +kernel
theorem dX11_common_54 : decode cX11_common 54 = .ok (.goto (-21), 3) := by decide +kernel
theorem dX11_common_57 : decode cX11_common 57 = .ok (.aload_n 0, 1) := by decide +kernel
theorem dX11_common_58 : decode cX11_common 58 = .ok (.iload_n 2, 1) := by decide +kernel
theorem dX11_common_59 : decode cX11_common 59 = .ok (.invokevirtual 194, 3) := by decide +kernel
theorem dX11_common_62 : decode cX11_common 62 = .ok (.iconst (-1), 1) := by decide +kernel
theorem dX11_common_63 : decode cX11_common 63 = .ok (.istore_n 3, 1) := by decide +kernel
theorem dX11_common_64 : decode cX11_common 64 = .ok (.iconst 0, 1) := by decide +kernel
theorem dX11_common_65 : decode cX11_common 65 = .ok (.istore 4, 2) := by decide +kernel
theorem dX11_common_67 : decode cX11_common 67 = .ok (.iload 4, 2) := by decide +kernel
theorem dX11_common_69 : decode cX11_common 69 = .ok (.aload_n 0, 1) := by decide +kernel
theorem dX11_common_70 : decode cX11_common 70 = .ok (.getfield 113, 3) := by decide +kernel
theorem dX11_common_73 : decode cX11_common 73 = .ok (.if_icmp .ge 32, 3) := by decide +kernel
theorem dX11_common_76 : decode cX11_common 76 = .ok (.aload_n 0, 1) := by decide +kernel
theorem dX11_common_77 : decode cX11_common 77 = .ok (.getfield 104, 3) := by decide +kernel
theorem dX11_common_80 : decode cX11_common 80 = .ok (.iload 4, 2) := by decide +kernel
theorem dX11_common_82 : decode cX11_common 82 = .ok (.baload, 1) := by decide +kernel
theorem dX11_common_83 : decode cX11_common 83 = .ok (.ifCond .eq 16, 3) := by decide +kernel
theorem dX11_common_86 : decode cX11_common 86 = .ok (.aload_n 0, 1) := by decide +kernel
theorem dX11_common_87 : decode cX11_common 87 = .ok (.getfield 107, 3) := by decide +kernel
theorem dX11_common_90 : decode cX11_common 90 = .ok (.iload 4, 2) := by decide +kernel
theorem dX11_common_92 : decode cX11_common 92 = .ok (.baload, 1) := by decide +kernel
theorem dX11_common_93 : decode cX11_common 93 = .ok (.ifCond .eq 6, 3) := by decide +kernel
theorem dX11_common_96 : decode cX11_common 96 = .ok (.iload 4, 2) := by decide +kernel
theorem dX11_common_98 : decode cX11_common 98 = .ok (.istore_n 3, 1) := by decide +kernel
theorem dX11_common_99 : decode cX11_common 99 = .ok (.iinc 4 1, 3) := by decide +kernel
theorem dX11_common_102 : decode cX11_common 102 = .ok (.goto (-35), 3) := by decide +kernel
theorem dX11_common_105 : decode cX11_common 105 = .ok (.iload_n 3, 1) := by decide +kernel
theorem dX11_common_106 : decode cX11_common 106 = .ok (.ireturn, 1) := by decide +kernel
theorem dX11_feed_0 : decode cX11_feed 0 = .ok (.aload_n 0, 1) := by decide +kernel
theorem dX11_feed_1 : decode cX11_feed 1 = .ok (.iconst 0, 1) := by decide +kernel
theorem dX11_feed_2 : decode cX11_feed 2 = .ok (.putfield 110, 3) := by decide +kernel
theorem dX11_feed_5 : decode cX11_feed 5 = .ok (.aload_n 0, 1) := by decide +kernel
theorem dX11_feed_6 : decode cX11_feed 6 = .ok (.getfield 197, 3) := by decide +kernel
theorem dX11_feed_9 : decode cX11_feed 9 = .ok (.bipush 20, 2) := by decide +kernel
theorem dX11_feed_11 : decode cX11_feed 11 = .ok (.iadd, 1) := by decide +kernel
theorem dX11_feed_12 : decode cX11_feed 12 = .ok (.sipush 400, 3) := by decide +kernel
theorem dX11_feed_15 : decode cX11_feed 15 = .ok (.if_icmp .le 5, 3) := by decide +kernel
theorem dX11_feed_18 : decode cX11_feed 18 = .ok (.iconst (-1), 1) := by decide +kernel
theorem dX11_feed_19 : decode cX11_feed 19 = .ok (.ireturn, 1) := by decide +kernel
theorem dX11_feed_20 : decode cX11_feed 20 = .ok (.iconst 0, 1) := by decide +kernel
theorem dX11_feed_21 : decode cX11_feed 21 = .ok (.istore 6, 2) := by decide +kernel
theorem dX11_feed_23 : decode cX11_feed 23 = .ok (.iload 6, 2) := by decide +kernel
theorem dX11_feed_25 : decode cX11_feed 25 = .ok (.bipush 20, 2) := by decide +kernel
theorem dX11_feed_27 : decode cX11_feed 27 = .ok (.if_icmp .ge 93, 3) := by decide +kernel
theorem dX11_feed_30 : decode cX11_feed 30 = .ok (.iload 6, 2) := by decide +kernel
theorem dX11_feed_32 : decode cX11_feed 32 = .ok (.iconst 4, 1) := by decide +kernel
theorem dX11_feed_33 : decode cX11_feed 33 = .ok (.if_icmp .ge 7, 3) := by decide +kernel
theorem dX11_feed_36 : decode cX11_feed 36 = .ok (.iload_n 1, 1) := by decide +kernel
theorem dX11_feed_37 : decode cX11_feed 37 = .ok (.goto 39, 3) := by decide +kernel
theorem dX11_feed_40 : decode cX11_feed 40 = .ok (.iload 6, 2) := by decide +kernel
theorem dX11_feed_42 : decode cX11_feed 42 = .ok (.bipush 8, 2) := by decide +kernel
theorem dX11_feed_44 : decode cX11_feed 44 = .ok (.if_icmp .ge 7, 3) := by decide +kernel
theorem dX11_feed_47 : decode cX11_feed 47 = .ok (.iload_n 2, 1) := by decide +kernel
theorem dX11_feed_48 : decode cX11_feed 48 = .ok (.goto 28, 3) := by decide +kernel
theorem dX11_feed_51 : decode cX11_feed 51 = .ok (.iload 6, 2) := by decide +kernel
theorem dX11_feed_53 : decode cX11_feed 53 = .ok (.bipush 12, 2) := by decide +kernel
theorem dX11_feed_55 : decode cX11_feed 55 = .ok (.if_icmp .ge 7, 3) := by decide +kernel
theorem dX11_feed_58 : decode cX11_feed 58 = .ok (.iload_n 3, 1) := by decide +kernel
theorem dX11_feed_59 : decode cX11_feed 59 = .ok (.goto 17, 3) := by decide +kernel
theorem dX11_feed_62 : decode cX11_feed 62 = .ok (.iload 6, 2) := by decide +kernel
theorem dX11_feed_64 : decode cX11_feed 64 = .ok (.bipush 16, 2) := by decide +kernel
theorem dX11_feed_66 : decode cX11_feed 66 = .ok (.if_icmp .ge 8, 3) := by decide +kernel
theorem dX11_feed_69 : decode cX11_feed 69 = .ok (.iload 4, 2) := by decide +kernel
theorem dX11_feed_71 : decode cX11_feed 71 = .ok (.goto 5, 3) := by decide +kernel
theorem dX11_feed_74 : decode cX11_feed 74 = .ok (.iload 5, 2) := by decide +kernel
theorem dX11_feed_76 : decode cX11_feed 76 = .ok (.istore 7, 2) := by decide +kernel
theorem dX11_feed_78 : decode cX11_feed 78 = .ok (.aload_n 0, 1) := by decide +kernel
theorem dX11_feed_79 : decode cX11_feed 79 = .ok (.getfield 72, 3) := by decide +kernel
theorem dX11_feed_82 : decode cX11_feed 82 = .ok (.aload_n 0, 1) := by decide +kernel
theorem dX11_feed_83 : decode cX11_feed 83 = .ok (.getfield 197, 3) := by decide +kernel
theorem dX11_feed_86 : decode cX11_feed 86 = .ok (.iload 7, 2) := by decide +kernel
theorem dX11_feed_88 : decode cX11_feed 88 = .ok (.bipush 24, 2) := by decide +kernel
theorem dX11_feed_90 : decode cX11_feed 90 = .ok (.bipush 8, 2) := by decide +kernel
theorem dX11_feed_92 : decode cX11_feed 92 = .ok (.iload 6, 2) := by decide +kernel
theorem dX11_feed_94 : decode cX11_feed 94 = .ok (.iconst 4, 1) := by decide +kernel
theorem dX11_feed_95 : decode cX11_feed 95 = .ok (.irem, 1) := by decide +kernel
theorem dX11_feed_96 : decode cX11_feed 96 = .ok (.imul, 1) := by decide +kernel
theorem dX11_feed_97 : decode cX11_feed 97 = .ok (.isub, 1) := by decide +kernel
theorem dX11_feed_98 : decode cX11_feed 98 = .ok (.ishr, 1) := by decide +kernel
theorem dX11_feed_99 : decode cX11_feed 99 = .ok (.sipush 255, 3) := by decide +kernel
theorem dX11_feed_102 : decode cX11_feed 102 = .ok (.iand, 1) := by decide +kernel
theorem dX11_feed_103 : decode cX11_feed 103 = .ok (.iastore, 1) := by decide +kernel
theorem dX11_feed_104 : decode cX11_feed 104 = .ok (.aload_n 0, 1) := by decide +kernel
theorem dX11_feed_105 : decode cX11_feed 105 = .ok (.dup, 1) := by decide +kernel
theorem dX11_feed_106 : decode cX11_feed 106 = .ok (.getfield 197, 3) := by decide +kernel
theorem dX11_feed_109 : decode cX11_feed 109 = .ok (.iconst 1, 1) := by decide +kernel
theorem dX11_feed_110 : decode cX11_feed 110 = .ok (.iadd, 1) := by decide +kernel
theorem dX11_feed_111 : decode cX11_feed 111 = .ok (.putfield 197, 3) := by decide +kernel
theorem dX11_feed_114 : decode cX11_feed 114 = .ok (.iinc 6 1, 3) := by decide +kernel
theorem dX11_feed_117 : decode cX11_feed 117 = .ok (.goto (-94), 3) := by decide +kernel
theorem dX11_feed_120 : decode cX11_feed 120 = .ok (.aload_n 0, 1) := by decide +kernel
theorem dX11_feed_121 : decode cX11_feed 121 = .ok (.getfield 197, 3) := by decide +kernel
theorem dX11_feed_124 : decode cX11_feed 124 = .ok (.ireturn, 1) := by decide +kernel
theorem dX11_byteAt_0 : decode cX11_byteAt 0 = .ok (.iload_n 1, 1) := by decide +kernel
theorem dX11_byteAt_1 : decode cX11_byteAt 1 = .ok (.aload_n 0, 1) := by decide +kernel
theorem dX11_byteAt_2 : decode cX11_byteAt 2 = .ok (.getfield 200, 3) := by decide +kernel
theorem dX11_byteAt_5 : decode cX11_byteAt 5 = .ok (.if_icmp .ge 12, 3) := by decide +kernel
theorem dX11_byteAt_8 : decode cX11_byteAt 8 = .ok (.aload_n 0, 1) := by decide +kernel
theorem dX11_byteAt_9 : decode cX11_byteAt 9 = .ok (.getfield 72, 3) := by decide +kernel
theorem dX11_byteAt_12 : decode cX11_byteAt 12 = .ok (.iload_n 1, 1) := by decide +kernel
theorem dX11_byteAt_13 : decode cX11_byteAt 13 = .ok (.iaload, 1) := by decide +kernel
theorem dX11_byteAt_14 : decode cX11_byteAt 14 = .ok (.goto 4, 3) := by decide +kernel
theorem dX11_byteAt_17 : decode cX11_byteAt 17 = .ok (.iconst (-1), 1) := by decide +kernel
theorem dX11_byteAt_18 : decode cX11_byteAt 18 = .ok (.ireturn, 1) := by decide +kernel
theorem dX11_isLetter_0 : decode cX11_isLetter 0 = .ok (.iload_n 0, 1) := by decide +kernel
theorem dX11_isLetter_1 : decode cX11_isLetter 1 = .ok (.bipush 97, 2) := by decide +kernel
theorem dX11_isLetter_3 : decode cX11_isLetter 3 = .ok (.if_icmp .lt 13, 3) := by decide +kernel
theorem dX11_isLetter_6 : decode cX11_isLetter 6 = .ok (.iload_n 0, 1) := by decide +kernel
theorem dX11_isLetter_7 : decode cX11_isLetter 7 = .ok (.bipush 122, 2) := by decide +kernel
theorem dX11_isLetter_9 : decode cX11_isLetter 9 = .ok (.if_icmp .gt 7, 3) := by decide +kernel
theorem dX11_isLetter_12 : decode cX11_isLetter 12 = .ok (.iconst 1, 1) := by decide +kernel
theorem dX11_isLetter_13 : decode cX11_isLetter 13 = .ok (.goto 4, 3) := by decide +kernel
theorem dX11_isLetter_16 : decode cX11_isLetter 16 = .ok (.iconst 0, 1) := by decide +kernel
theorem dX11_isLetter_17 : decode cX11_isLetter 17 = .ok (.ireturn, 1) := by decide +kernel
theorem dX11_isDigit_0 : decode cX11_isDigit 0 = .ok (.iload_n 0, 1) := by decide +kernel
theorem dX11_isDigit_1 : decode cX11_isDigit 1 = .ok (.bipush 48, 2) := by decide +kernel
theorem dX11_isDigit_3 : decode cX11_isDigit 3 = .ok (.if_icmp .lt 13, 3) := by decide +kernel
theorem dX11_isDigit_6 : decode cX11_isDigit 6 = .ok (.iload_n 0, 1) := by decide +kernel
theorem dX11_isDigit_7 : decode cX11_isDigit 7 = .ok (.bipush 57, 2) := by decide +kernel
theorem dX11_isDigit_9 : decode cX11_isDigit 9 = .ok (.if_icmp .gt 7, 3) := by decide +kernel
theorem dX11_isDigit_12 : decode cX11_isDigit 12 = .ok (.iconst 1, 1) := by decide +kernel
theorem dX11_isDigit_13 : decode cX11_isDigit 13 = .ok (.goto 4, 3) := by decide +kernel
theorem dX11_isDigit_16 : decode cX11_isDigit 16 = .ok (.iconst 0, 1) := by decide +kernel
theorem dX11_isDigit_17 : decode cX11_isDigit 17 = .ok (.ireturn, 1) := by decide +kernel
theorem dX11_step_0 : decode cX11_step 0 = .ok (.aload_n 0, 1) := by decide +kernel
theorem dX11_step_1 : decode cX11_step 1 = .ok (.aload_n 0, 1) := by decide +kernel
theorem dX11_step_2 : decode cX11_step 2 = .ok (.getfield 203, 3) := by decide +kernel
theorem dX11_step_5 : decode cX11_step 5 = .ok (.invokevirtual 206, 3) := by decide +kernel
theorem dX11_step_8 : decode cX11_step 8 = .ok (.bipush 32, 2) := by decide +kernel
theorem dX11_step_10 : decode cX11_step 10 = .ok (.if_icmp .eq 16, 3) := by decide +kernel
theorem dX11_step_13 : decode cX11_step 13 = .ok (.aload_n 0, 1) := by decide +kernel
theorem dX11_step_14 : decode cX11_step 14 = .ok (.aload_n 0, 1) := by decide +kernel
theorem dX11_step_15 : decode cX11_step 15 = .ok (.getfield 203, 3) := by decide +kernel
theorem dX11_step_18 : decode cX11_step 18 = .ok (.invokevirtual 206, 3) := by decide +kernel
theorem dX11_step_21 : decode cX11_step 21 = .ok (.bipush 10, 2) := by decide +kernel
theorem dX11_step_23 : decode cX11_step 23 = .ok (.if_icmp .ne 16, 3) := by decide +kernel
theorem dX11_step_26 : decode cX11_step 26 = .ok (.aload_n 0, 1) := by decide +kernel
theorem dX11_step_27 : decode cX11_step 27 = .ok (.dup, 1) := by decide +kernel
theorem dX11_step_28 : decode cX11_step 28 = .ok (.getfield 203, 3) := by decide +kernel
theorem dX11_step_31 : decode cX11_step 31 = .ok (.iconst 1, 1) := by decide +kernel
theorem dX11_step_32 : decode cX11_step 32 = .ok (.iadd, 1) := by decide +kernel
theorem dX11_step_33 : decode cX11_step 33 = .ok (.putfield 203, 3) := by decide +kernel
theorem dX11_step_36 : decode cX11_step 36 = .ok (.goto (-36), 3) := by decide +kernel
theorem dX11_step_39 : decode cX11_step 39 = .ok (.aload_n 0, 1) := by decide +kernel
theorem dX11_step_40 : decode cX11_step 40 = .ok (.aload_n 0, 1) := by decide +kernel
theorem dX11_step_41 : decode cX11_step 41 = .ok (.getfield 203, 3) := by decide +kernel
theorem dX11_step_44 : decode cX11_step 44 = .ok (.putfield 209, 3) := by decide +kernel
theorem dX11_step_47 : decode cX11_step 47 = .ok (.aload_n 0, 1) := by decide +kernel
theorem dX11_step_48 : decode cX11_step 48 = .ok (.iconst 0, 1) := by decide +kernel
theorem dX11_step_49 : decode cX11_step 49 = .ok (.putfield 212, 3) := by decide +kernel
theorem dX11_step_52 : decode cX11_step 52 = .ok (.aload_n 0, 1) := by decide +kernel
theorem dX11_step_53 : decode cX11_step 53 = .ok (.aload_n 0, 1) := by decide +kernel
theorem dX11_step_54 : decode cX11_step 54 = .ok (.getfield 203, 3) := by decide +kernel
theorem dX11_step_57 : decode cX11_step 57 = .ok (.invokevirtual 206, 3) := by decide +kernel
theorem dX11_step_60 : decode cX11_step 60 = .ok (.istore_n 1, 1) := by decide +kernel
theorem dX11_step_61 : decode cX11_step 61 = .ok (.iload_n 1, 1) := by decide +kernel
theorem dX11_step_62 : decode cX11_step 62 = .ok (.iconst (-1), 1) := by decide +kernel
theorem dX11_step_63 : decode cX11_step 63 = .ok (.if_icmp .ne 11, 3) := by decide +kernel
theorem dX11_step_66 : decode cX11_step 66 = .ok (.aload_n 0, 1) := by decide +kernel
theorem dX11_step_67 : decode cX11_step 67 = .ok (.iconst 0, 1) := by decide +kernel
theorem dX11_step_68 : decode cX11_step 68 = .ok (.putfield 215, 3) := by decide +kernel
theorem dX11_step_71 : decode cX11_step 71 = .ok (.goto 163, 3) := by decide +kernel
theorem dX11_step_74 : decode cX11_step 74 = .ok (.iload_n 1, 1) := by decide +kernel
theorem dX11_step_75 : decode cX11_step 75 = .ok (.invokestatic 218, 3) := by decide +kernel
theorem dX11_step_78 : decode cX11_step 78 = .ok (.ifCond .eq 38, 3) := by decide +kernel
theorem dX11_step_81 : decode cX11_step 81 = .ok (.aload_n 0, 1) := by decide +kernel
theorem dX11_step_82 : decode cX11_step 82 = .ok (.aload_n 0, 1) := by decide +kernel
theorem dX11_step_83 : decode cX11_step 83 = .ok (.getfield 203, 3) := by decide +kernel
theorem dX11_step_86 : decode cX11_step 86 = .ok (.invokevirtual 206, 3) := by decide +kernel
theorem dX11_step_89 : decode cX11_step 89 = .ok (.invokestatic 218, 3) := by decide +kernel
theorem dX11_step_92 : decode cX11_step 92 = .ok (.ifCond .eq 16, 3) := by decide +kernel
theorem dX11_step_95 : decode cX11_step 95 = .ok (.aload_n 0, 1) := by decide +kernel
theorem dX11_step_96 : decode cX11_step 96 = .ok (.dup, 1) := by decide +kernel
theorem dX11_step_97 : decode cX11_step 97 = .ok (.getfield 203, 3) := by decide +kernel
theorem dX11_step_100 : decode cX11_step 100 = .ok (.iconst 1, 1) := by decide +kernel
theorem dX11_step_101 : decode cX11_step 101 = .ok (.iadd, 1) := by decide +kernel
theorem dX11_step_102 : decode cX11_step 102 = .ok (.putfield 203, 3) := by decide +kernel
theorem dX11_step_105 : decode cX11_step 105 = .ok (.goto (-24), 3) := by decide +kernel
theorem dX11_step_108 : decode cX11_step 108 = .ok (.aload_n 0, 1) := by decide +kernel
theorem dX11_step_109 : decode cX11_step 109 = .ok (.iconst 1, 1) := by decide +kernel
theorem dX11_step_110 : decode cX11_step 110 = .ok (.putfield 215, 3) := by decide +kernel
theorem dX11_step_113 : decode cX11_step 113 = .ok (.goto 121, 3) := by decide +kernel
theorem dX11_step_116 : decode cX11_step 116 = .ok (.iload_n 1, 1) := by decide +kernel
theorem dX11_step_117 : decode cX11_step 117 = .ok (.invokestatic 221, 3) := by decide +kernel
theorem dX11_step_120 : decode cX11_step 120 = .ok (.ifCond .eq 38, 3) := by decide +kernel
theorem dX11_step_123 : decode cX11_step 123 = .ok (.aload_n 0, 1) := by decide +kernel
theorem dX11_step_124 : decode cX11_step 124 = .ok (.aload_n 0, 1) := by decide +kernel
theorem dX11_step_125 : decode cX11_step 125 = .ok (.getfield 203, 3) := by decide +kernel
theorem dX11_step_128 : decode cX11_step 128 = .ok (.invokevirtual 206, 3) := by decide +kernel
theorem dX11_step_131 : decode cX11_step 131 = .ok (.invokestatic 221, 3) := by decide +kernel
theorem dX11_step_134 : decode cX11_step 134 = .ok (.ifCond .eq 16, 3) := by decide +kernel
theorem dX11_step_137 : decode cX11_step 137 = .ok (.aload_n 0, 1) := by decide +kernel
theorem dX11_step_138 : decode cX11_step 138 = .ok (.dup, 1) := by decide +kernel
theorem dX11_step_139 : decode cX11_step 139 = .ok (.getfield 203, 3) := by decide +kernel
theorem dX11_step_142 : decode cX11_step 142 = .ok (.iconst 1, 1) := by decide +kernel
theorem dX11_step_143 : decode cX11_step 143 = .ok (.iadd, 1) := by decide +kernel
theorem dX11_step_144 : decode cX11_step 144 = .ok (.putfield 203, 3) := by decide +kernel
theorem dX11_step_147 : decode cX11_step 147 = .ok (.goto (-24), 3) := by decide +kernel
theorem dX11_step_150 : decode cX11_step 150 = .ok (.aload_n 0, 1) := by decide +kernel
theorem dX11_step_151 : decode cX11_step 151 = .ok (.iconst 2, 1) := by decide +kernel
theorem dX11_step_152 : decode cX11_step 152 = .ok (.putfield 215, 3) := by decide +kernel
theorem dX11_step_155 : decode cX11_step 155 = .ok (.goto 79, 3) := by decide +kernel
theorem dX11_step_158 : decode cX11_step 158 = .ok (.aload_n 0, 1) := by decide +kernel
theorem dX11_step_159 : decode cX11_step 159 = .ok (.dup, 1) := by decide +kernel
theorem dX11_step_160 : decode cX11_step 160 = .ok (.getfield 203, 3) := by decide +kernel
theorem dX11_step_163 : decode cX11_step 163 = .ok (.iconst 1, 1) := by decide +kernel
theorem dX11_step_164 : decode cX11_step 164 = .ok (.iadd, 1) := by decide +kernel
theorem dX11_step_165 : decode cX11_step 165 = .ok (.putfield 203, 3) := by decide +kernel
theorem dX11_step_168 : decode cX11_step 168 = .ok (.iload_n 1, 1) := by decide +kernel
theorem dX11_step_169 : decode cX11_step 169 = .ok (.bipush 40, 2) := by decide +kernel
theorem dX11_step_171 : decode cX11_step 171 = .ok (.if_icmp .eq 39, 3) := by decide +kernel
theorem dX11_step_174 : decode cX11_step 174 = .ok (.iload_n 1, 1) := by decide +kernel
theorem dX11_step_175 : decode cX11_step 175 = .ok (.bipush 41, 2) := by decide +kernel
theorem dX11_step_177 : decode cX11_step 177 = .ok (.if_icmp .eq 33, 3) := by decide +kernel
theorem dX11_step_180 : decode cX11_step 180 = .ok (.iload_n 1, 1) := by decide +kernel
theorem dX11_step_181 : decode cX11_step 181 = .ok (.bipush 59, 2) := by decide +kernel
theorem dX11_step_183 : decode cX11_step 183 = .ok (.if_icmp .eq 27, 3) := by decide +kernel
theorem dX11_step_186 : decode cX11_step 186 = .ok (.iload_n 1, 1) := by decide +kernel
theorem dX11_step_187 : decode cX11_step 187 = .ok (.bipush 43, 2) := by decide +kernel
theorem dX11_step_189 : decode cX11_step 189 = .ok (.if_icmp .eq 21, 3) := by decide +kernel
theorem dX11_step_192 : decode cX11_step 192 = .ok (.iload_n 1, 1) := by decide +kernel
theorem dX11_step_193 : decode cX11_step 193 = .ok (.bipush 45, 2) := by decide +kernel
theorem dX11_step_195 : decode cX11_step 195 = .ok (.if_icmp .eq 15, 3) := by decide +kernel
theorem dX11_step_198 : decode cX11_step 198 = .ok (.iload_n 1, 1) := by decide +kernel
theorem dX11_step_199 : decode cX11_step 199 = .ok (.bipush 60, 2) := by decide +kernel
theorem dX11_step_201 : decode cX11_step 201 = .ok (.if_icmp .eq 9, 3) := by decide +kernel
theorem dX11_step_204 : decode cX11_step 204 = .ok (.iload_n 1, 1) := by decide +kernel
theorem dX11_step_205 : decode cX11_step 205 = .ok (.bipush 61, 2) := by decide +kernel
theorem dX11_step_207 : decode cX11_step 207 = .ok (.if_icmp .ne 7, 3) := by decide +kernel
theorem dX11_step_210 : decode cX11_step 210 = .ok (.iconst 1, 1) := by decide +kernel
theorem dX11_step_211 : decode cX11_step 211 = .ok (.goto 4, 3) := by decide +kernel
theorem dX11_step_214 : decode cX11_step 214 = .ok (.iconst 0, 1) := by decide +kernel
theorem dX11_step_215 : decode cX11_step 215 = .ok (.istore_n 2, 1) := by decide +kernel
theorem dX11_step_216 : decode cX11_step 216 = .ok (.aload_n 0, 1) := by decide +kernel
theorem dX11_step_217 : decode cX11_step 217 = .ok (.iload_n 2, 1) := by decide +kernel
theorem dX11_step_218 : decode cX11_step 218 = .ok (.ifCond .eq 7, 3) := by decide +kernel
theorem dX11_step_221 : decode cX11_step 221 = .ok (.iconst 3, 1) := by decide +kernel
theorem dX11_step_222 : decode cX11_step 222 = .ok (.goto 4, 3) := by decide +kernel
theorem dX11_step_225 : decode cX11_step 225 = .ok (.iconst 4, 1) := by decide +kernel
theorem dX11_step_226 : decode cX11_step 226 = .ok (.putfield 215, 3) := by decide +kernel
theorem dX11_step_229 : decode cX11_step 229 = .ok (.aload_n 0, 1) := by decide +kernel
theorem dX11_step_230 : decode cX11_step 230 = .ok (.iload_n 1, 1) := by decide +kernel
theorem dX11_step_231 : decode cX11_step 231 = .ok (.putfield 212, 3) := by decide +kernel
theorem dX11_step_234 : decode cX11_step 234 = .ok (.aload_n 0, 1) := by decide +kernel
theorem dX11_step_235 : decode cX11_step 235 = .ok (.aload_n 0, 1) := by decide +kernel
theorem dX11_step_236 : decode cX11_step 236 = .ok (.getfield 203, 3) := by decide +kernel
theorem dX11_step_239 : decode cX11_step 239 = .ok (.putfield 224, 3) := by decide +kernel
theorem dX11_step_242 : decode cX11_step 242 = .ok (.return_, 1) := by decide +kernel
theorem dX11_isWord_0 : decode cX11_isWord 0 = .ok (.aload_n 0, 1) := by decide +kernel
theorem dX11_isWord_1 : decode cX11_isWord 1 = .ok (.getfield 215, 3) := by decide +kernel
theorem dX11_isWord_4 : decode cX11_isWord 4 = .ok (.iconst 1, 1) := by decide +kernel
theorem dX11_isWord_5 : decode cX11_isWord 5 = .ok (.if_icmp .ne 23, 3) := by decide +kernel
theorem dX11_isWord_8 : decode cX11_isWord 8 = .ok (.aload_n 1, 1) := by decide +kernel
theorem dX11_isWord_9 : decode cX11_isWord 9 = .ok (.invokevirtual 227, 3) := by decide +kernel
theorem dX11_isWord_12 : decode cX11_isWord 12 = .ok (.aload_n 0, 1) := by decide +kernel
theorem dX11_isWord_13 : decode cX11_isWord 13 = .ok (.getfield 224, 3) := by decide +kernel
theorem dX11_isWord_16 : decode cX11_isWord 16 = .ok (.aload_n 0, 1) := by decide +kernel
theorem dX11_isWord_17 : decode cX11_isWord 17 = .ok (.getfield 209, 3) := by decide +kernel
theorem dX11_isWord_20 : decode cX11_isWord 20 = .ok (.isub, 1) := by decide +kernel
theorem dX11_isWord_21 : decode cX11_isWord 21 = .ok (.if_icmp .ne 7, 3) := by decide +kernel
theorem dX11_isWord_24 : decode cX11_isWord 24 = .ok (.iconst 1, 1) := by decide +kernel
theorem dX11_isWord_25 : decode cX11_isWord 25 = .ok (.goto 4, 3) := by decide +kernel
theorem dX11_isWord_28 : decode cX11_isWord 28 = .ok (.iconst 0, 1) := by decide +kernel
theorem dX11_isWord_29 : decode cX11_isWord 29 = .ok (.istore_n 2, 1) := by decide +kernel
theorem dX11_isWord_30 : decode cX11_isWord 30 = .ok (.iconst 0, 1) := by decide +kernel
theorem dX11_isWord_31 : decode cX11_isWord 31 = .ok (.istore_n 3, 1) := by decide +kernel
theorem dX11_isWord_32 : decode cX11_isWord 32 = .ok (.iload_n 2, 1) := by decide +kernel
theorem dX11_isWord_33 : decode cX11_isWord 33 = .ok (.ifCond .eq 42, 3) := by decide +kernel
theorem dX11_isWord_36 : decode cX11_isWord 36 = .ok (.iload_n 3, 1) := by decide +kernel
theorem dX11_isWord_37 : decode cX11_isWord 37 = .ok (.aload_n 1, 1) := by decide +kernel
theorem dX11_isWord_38 : decode cX11_isWord 38 = .ok (.invokevirtual 227, 3) := by decide +kernel
theorem dX11_isWord_41 : decode cX11_isWord 41 = .ok (.if_icmp .ge 34, 3) := by decide +kernel
theorem dX11_isWord_44 : decode cX11_isWord 44 = .ok (.aload_n 1, 1) := by decide +kernel
theorem dX11_isWord_45 : decode cX11_isWord 45 = .ok (.iload_n 3, 1) := by decide +kernel
theorem dX11_isWord_46 : decode cX11_isWord 46 = .ok (.invokevirtual 230, 3) := by decide +kernel
theorem dX11_isWord_49 : decode cX11_isWord 49 = .ok (.aload_n 0, 1) := by decide +kernel
theorem dX11_isWord_50 : decode cX11_isWord 50 = .ok (.getfield 72, 3) := by decide +kernel
theorem dX11_isWord_53 : decode cX11_isWord 53 = .ok (.aload_n 0, 1) := by decide +kernel
theorem dX11_isWord_54 : decode cX11_isWord 54 = .ok (.getfield 209, 3) := by decide +kernel
theorem dX11_isWord_57 : decode cX11_isWord 57 = .ok (.iload_n 3, 1) := by decide +kernel
theorem dX11_isWord_58 : decode cX11_isWord 58 = .ok (.iadd, 1) := by decide +kernel
theorem dX11_isWord_59 : decode cX11_isWord 59 = .ok (.iaload, 1) := by decide +kernel
theorem dX11_isWord_60 : decode cX11_isWord 60 = .ok (.if_icmp .ne 7, 3) := by decide +kernel
theorem dX11_isWord_63 : decode cX11_isWord 63 = .ok (.iconst 1, 1) := by decide +kernel
theorem dX11_isWord_64 : decode cX11_isWord 64 = .ok (.goto 4, 3) := by decide +kernel
theorem dX11_isWord_67 : decode cX11_isWord 67 = .ok (.iconst 0, 1) := by decide +kernel
theorem dX11_isWord_68 : decode cX11_isWord 68 = .ok (.istore_n 2, 1) := by decide +kernel
theorem dX11_isWord_69 : decode cX11_isWord 69 = .ok (.iinc 3 1, 3) := by decide +kernel
theorem dX11_isWord_72 : decode cX11_isWord 72 = .ok (.goto (-40), 3) := by decide +kernel
theorem dX11_isWord_75 : decode cX11_isWord 75 = .ok (.iload_n 2, 1) := by decide +kernel
theorem dX11_isWord_76 : decode cX11_isWord 76 = .ok (.ireturn, 1) := by decide +kernel
theorem dX11_isSign_0 : decode cX11_isSign 0 = .ok (.aload_n 0, 1) := by decide +kernel
theorem dX11_isSign_1 : decode cX11_isSign 1 = .ok (.getfield 215, 3) := by decide +kernel
theorem dX11_isSign_4 : decode cX11_isSign 4 = .ok (.iconst 3, 1) := by decide +kernel
theorem dX11_isSign_5 : decode cX11_isSign 5 = .ok (.if_icmp .ne 15, 3) := by decide +kernel
theorem dX11_isSign_8 : decode cX11_isSign 8 = .ok (.aload_n 0, 1) := by decide +kernel
theorem dX11_isSign_9 : decode cX11_isSign 9 = .ok (.getfield 212, 3) := by decide +kernel
theorem dX11_isSign_12 : decode cX11_isSign 12 = .ok (.iload_n 1, 1) := by decide +kernel
theorem dX11_isSign_13 : decode cX11_isSign 13 = .ok (.if_icmp .ne 7, 3) := by decide +kernel
theorem dX11_isSign_16 : decode cX11_isSign 16 = .ok (.iconst 1, 1) := by decide +kernel
theorem dX11_isSign_17 : decode cX11_isSign 17 = .ok (.goto 4, 3) := by decide +kernel
theorem dX11_isSign_20 : decode cX11_isSign 20 = .ok (.iconst 0, 1) := by decide +kernel
theorem dX11_isSign_21 : decode cX11_isSign 21 = .ok (.ireturn, 1) := by decide +kernel
theorem dX11_wrong_0 : decode cX11_wrong 0 = .ok (.aload_n 0, 1) := by decide +kernel
theorem dX11_wrong_1 : decode cX11_wrong 1 = .ok (.getfield 234, 3) := by decide +kernel
theorem dX11_wrong_4 : decode cX11_wrong 4 = .ok (.ifCond .eq 4, 3) := by decide +kernel
theorem dX11_wrong_7 : decode cX11_wrong 7 = .ok (.return_, 1) := by decide +kernel
theorem dX11_wrong_8 : decode cX11_wrong 8 = .ok (.aload_n 0, 1) := by decide +kernel
theorem dX11_wrong_9 : decode cX11_wrong 9 = .ok (.iload_n 1, 1) := by decide +kernel
theorem dX11_wrong_10 : decode cX11_wrong 10 = .ok (.putfield 234, 3) := by decide +kernel
theorem dX11_wrong_13 : decode cX11_wrong 13 = .ok (.aload_n 0, 1) := by decide +kernel
theorem dX11_wrong_14 : decode cX11_wrong 14 = .ok (.aload_n 0, 1) := by decide +kernel
theorem dX11_wrong_15 : decode cX11_wrong 15 = .ok (.getfield 209, 3) := by decide +kernel
theorem dX11_wrong_18 : decode cX11_wrong 18 = .ok (.putfield 237, 3) := by decide +kernel
theorem dX11_wrong_21 : decode cX11_wrong 21 = .ok (.return_, 1) := by decide +kernel
theorem dX11_emit_0 : decode cX11_emit 0 = .ok (.aload_n 0, 1) := by decide +kernel
theorem dX11_emit_1 : decode cX11_emit 1 = .ok (.getfield 234, 3) := by decide +kernel
theorem dX11_emit_4 : decode cX11_emit 4 = .ok (.ifCond .eq 4, 3) := by decide +kernel
theorem dX11_emit_7 : decode cX11_emit 7 = .ok (.return_, 1) := by decide +kernel
theorem dX11_emit_8 : decode cX11_emit 8 = .ok (.aload_n 0, 1) := by decide +kernel
theorem dX11_emit_9 : decode cX11_emit 9 = .ok (.getfield 84, 3) := by decide +kernel
theorem dX11_emit_12 : decode cX11_emit 12 = .ok (.sipush 700, 3) := by decide +kernel
theorem dX11_emit_15 : decode cX11_emit 15 = .ok (.aload_n 0, 1) := by decide +kernel
theorem dX11_emit_16 : decode cX11_emit 16 = .ok (.getfield 240, 3) := by decide +kernel
theorem dX11_emit_19 : decode cX11_emit 19 = .ok (.imul, 1) := by decide +kernel
theorem dX11_emit_20 : decode cX11_emit 20 = .ok (.aload_n 0, 1) := by decide +kernel
end
section
theorem dX11_emit_21 : decode cX11_emit 21 = .ok (.getfield 243, 3) := by decide +kernel
theorem dX11_emit_24 : decode cX11_emit 24 = .ok (.iadd, 1) := by decide +kernel
theorem dX11_emit_25 : decode cX11_emit 25 = .ok (.iload_n 1, 1) := by decide +kernel
theorem dX11_emit_26 : decode cX11_emit 26 = .ok (.iastore, 1) := by decide +kernel
theorem dX11_emit_27 : decode cX11_emit 27 = .ok (.aload_n 0, 1) := by decide +kernel
theorem dX11_emit_28 : decode cX11_emit 28 = .ok (.dup, 1) := by decide +kernel
theorem dX11_emit_29 : decode cX11_emit 29 = .ok (.getfield 243, 3) := by decide +kernel
theorem dX11_emit_32 : decode cX11_emit 32 = .ok (.iconst 1, 1) := by decide +kernel
theorem dX11_emit_33 : decode cX11_emit 33 = .ok (.iadd, 1) := by decide +kernel
theorem dX11_emit_34 : decode cX11_emit 34 = .ok (.putfield 243, 3) := by decide +kernel
theorem dX11_emit_37 : decode cX11_emit 37 = .ok (.return_, 1) := by decide +kernel
theorem dX11_readText_0 : decode cX11_readText 0 = .ok (.aload_n 0, 1) := by decide +kernel
theorem dX11_readText_1 : decode cX11_readText 1 = .ok (.invokevirtual 246, 3) := by decide +kernel
theorem dX11_readText_4 : decode cX11_readText 4 = .ok (.iconst 0, 1) := by decide +kernel
theorem dX11_readText_5 : decode cX11_readText 5 = .ok (.istore_n 1, 1) := by decide +kernel
theorem dX11_readText_6 : decode cX11_readText 6 = .ok (.aload_n 0, 1) := by decide +kernel
theorem dX11_readText_7 : decode cX11_readText 7 = .ok (.getfield 234, 3) := by decide +kernel
theorem dX11_readText_10 : decode cX11_readText 10 = .ok (.ifCond .ne 164, 3) := by decide +kernel
theorem dX11_readText_13 : decode cX11_readText 13 = .ok (.aload_n 0, 1) := by decide +kernel
theorem dX11_readText_14 : decode cX11_readText 14 = .ok (.getfield 215, 3) := by decide +kernel
theorem dX11_readText_17 : decode cX11_readText 17 = .ok (.ifCond .eq 157, 3) := by decide +kernel
theorem dX11_readText_20 : decode cX11_readText 20 = .ok (.aload_n 0, 1) := by decide +kernel
theorem dX11_readText_21 : decode cX11_readText 21 = .ok (.ldc 249, 2) := by decide +kernel
theorem dX11_readText_23 : decode cX11_readText 23 = .ok (.invokevirtual 251, 3) := by decide +kernel
theorem dX11_readText_26 : decode cX11_readText 26 = .ok (.ifCond .eq 7, 3) := by decide +kernel
theorem dX11_readText_29 : decode cX11_readText 29 = .ok (.iconst 0, 1) := by decide +kernel
theorem dX11_readText_30 : decode cX11_readText 30 = .ok (.goto 31, 3) := by decide +kernel
theorem dX11_readText_33 : decode cX11_readText 33 = .ok (.aload_n 0, 1) := by decide +kernel
theorem dX11_readText_34 : decode cX11_readText 34 = .ok (.ldc 255, 2) := by decide +kernel
theorem dX11_readText_36 : decode cX11_readText 36 = .ok (.invokevirtual 251, 3) := by decide +kernel
theorem dX11_readText_39 : decode cX11_readText 39 = .ok (.ifCond .eq 7, 3) := by decide +kernel
theorem dX11_readText_42 : decode cX11_readText 42 = .ok (.iconst 1, 1) := by decide +kernel
theorem dX11_readText_43 : decode cX11_readText 43 = .ok (.goto 18, 3) := by decide +kernel
theorem dX11_readText_46 : decode cX11_readText 46 = .ok (.aload_n 0, 1) := by decide +kernel
theorem dX11_readText_47 : decode cX11_readText 47 = .ok (.ldc_w 257, 3) := by decide +kernel
theorem dX11_readText_50 : decode cX11_readText 50 = .ok (.invokevirtual 251, 3) := by decide +kernel
theorem dX11_readText_53 : decode cX11_readText 53 = .ok (.ifCond .eq 7, 3) := by decide +kernel
theorem dX11_readText_56 : decode cX11_readText 56 = .ok (.iconst 2, 1) := by decide +kernel
theorem dX11_readText_57 : decode cX11_readText 57 = .ok (.goto 4, 3) := by decide +kernel
theorem dX11_readText_60 : decode cX11_readText 60 = .ok (.iconst (-1), 1) := by decide +kernel
theorem dX11_readText_61 : decode cX11_readText 61 = .ok (.istore_n 2, 1) := by decide +kernel
theorem dX11_readText_62 : decode cX11_readText 62 = .ok (.iload_n 2, 1) := by decide +kernel
theorem dX11_readText_63 : decode cX11_readText 63 = .ok (.iconst (-1), 1) := by decide +kernel
theorem dX11_readText_64 : decode cX11_readText 64 = .ok (.if_icmp .ne 11, 3) := by decide +kernel
theorem dX11_readText_67 : decode cX11_readText 67 = .ok (.aload_n 0, 1) := by decide +kernel
theorem dX11_readText_68 : decode cX11_readText 68 = .ok (.iconst 1, 1) := by decide +kernel
theorem dX11_readText_69 : decode cX11_readText 69 = .ok (.invokevirtual 259, 3) := by decide +kernel
theorem dX11_readText_72 : decode cX11_readText 72 = .ok (.goto 14, 3) := by decide +kernel
theorem dX11_readText_75 : decode cX11_readText 75 = .ok (.iload_n 1, 1) := by decide +kernel
theorem dX11_readText_76 : decode cX11_readText 76 = .ok (.bipush 12, 2) := by decide +kernel
theorem dX11_readText_78 : decode cX11_readText 78 = .ok (.if_icmp .ne 8, 3) := by decide +kernel
theorem dX11_readText_81 : decode cX11_readText 81 = .ok (.aload_n 0, 1) := by decide +kernel
theorem dX11_readText_82 : decode cX11_readText 82 = .ok (.iconst 2, 1) := by decide +kernel
theorem dX11_readText_83 : decode cX11_readText 83 = .ok (.invokevirtual 259, 3) := by decide +kernel
theorem dX11_readText_86 : decode cX11_readText 86 = .ok (.aload_n 0, 1) := by decide +kernel
theorem dX11_readText_87 : decode cX11_readText 87 = .ok (.getfield 234, 3) := by decide +kernel
theorem dX11_readText_90 : decode cX11_readText 90 = .ok (.ifCond .eq 4, 3) := by decide +kernel
theorem dX11_readText_93 : decode cX11_readText 93 = .ok (.return_, 1) := by decide +kernel
theorem dX11_readText_94 : decode cX11_readText 94 = .ok (.aload_n 0, 1) := by decide +kernel
theorem dX11_readText_95 : decode cX11_readText 95 = .ok (.getfield 90, 3) := by decide +kernel
theorem dX11_readText_98 : decode cX11_readText 98 = .ok (.bipush 12, 2) := by decide +kernel
theorem dX11_readText_100 : decode cX11_readText 100 = .ok (.aload_n 0, 1) := by decide +kernel
theorem dX11_readText_101 : decode cX11_readText 101 = .ok (.getfield 240, 3) := by decide +kernel
theorem dX11_readText_104 : decode cX11_readText 104 = .ok (.imul, 1) := by decide +kernel
theorem dX11_readText_105 : decode cX11_readText 105 = .ok (.iload_n 1, 1) := by decide +kernel
theorem dX11_readText_106 : decode cX11_readText 106 = .ok (.iadd, 1) := by decide +kernel
theorem dX11_readText_107 : decode cX11_readText 107 = .ok (.iload_n 2, 1) := by decide +kernel
theorem dX11_readText_108 : decode cX11_readText 108 = .ok (.iastore, 1) := by decide +kernel
theorem dX11_readText_109 : decode cX11_readText 109 = .ok (.aload_n 0, 1) := by decide +kernel
theorem dX11_readText_110 : decode cX11_readText 110 = .ok (.getfield 81, 3) := by decide +kernel
theorem dX11_readText_113 : decode cX11_readText 113 = .ok (.bipush 13, 2) := by decide +kernel
theorem dX11_readText_115 : decode cX11_readText 115 = .ok (.aload_n 0, 1) := by decide +kernel
theorem dX11_readText_116 : decode cX11_readText 116 = .ok (.getfield 240, 3) := by decide +kernel
theorem dX11_readText_119 : decode cX11_readText 119 = .ok (.imul, 1) := by decide +kernel
theorem dX11_readText_120 : decode cX11_readText 120 = .ok (.iload_n 1, 1) := by decide +kernel
theorem dX11_readText_121 : decode cX11_readText 121 = .ok (.iadd, 1) := by decide +kernel
theorem dX11_readText_122 : decode cX11_readText 122 = .ok (.aload_n 0, 1) := by decide +kernel
theorem dX11_readText_123 : decode cX11_readText 123 = .ok (.getfield 243, 3) := by decide +kernel
theorem dX11_readText_126 : decode cX11_readText 126 = .ok (.iastore, 1) := by decide +kernel
theorem dX11_readText_127 : decode cX11_readText 127 = .ok (.iinc 1 1, 3) := by decide +kernel
theorem dX11_readText_130 : decode cX11_readText 130 = .ok (.aload_n 0, 1) := by decide +kernel
theorem dX11_readText_131 : decode cX11_readText 131 = .ok (.invokevirtual 246, 3) := by decide +kernel
theorem dX11_readText_134 : decode cX11_readText 134 = .ok (.aload_n 0, 1) := by decide +kernel
theorem dX11_readText_135 : decode cX11_readText 135 = .ok (.iconst 0, 1) := by decide +kernel
theorem dX11_readText_136 : decode cX11_readText 136 = .ok (.invokevirtual 262, 3) := by decide +kernel
theorem dX11_readText_139 : decode cX11_readText 139 = .ok (.aload_n 0, 1) := by decide +kernel
theorem dX11_readText_140 : decode cX11_readText 140 = .ok (.getfield 234, 3) := by decide +kernel
theorem dX11_readText_143 : decode cX11_readText 143 = .ok (.ifCond .ne 17, 3) := by decide +kernel
theorem dX11_readText_146 : decode cX11_readText 146 = .ok (.aload_n 0, 1) := by decide +kernel
theorem dX11_readText_147 : decode cX11_readText 147 = .ok (.bipush 59, 2) := by decide +kernel
theorem dX11_readText_149 : decode cX11_readText 149 = .ok (.invokevirtual 265, 3) := by decide +kernel
theorem dX11_readText_152 : decode cX11_readText 152 = .ok (.ifCond .ne 8, 3) := by decide +kernel
theorem dX11_readText_155 : decode cX11_readText 155 = .ok (.aload_n 0, 1) := by decide +kernel
theorem dX11_readText_156 : decode cX11_readText 156 = .ok (.iconst 1, 1) := by decide +kernel
theorem dX11_readText_157 : decode cX11_readText 157 = .ok (.invokevirtual 259, 3) := by decide +kernel
theorem dX11_readText_160 : decode cX11_readText 160 = .ok (.aload_n 0, 1) := by decide +kernel
theorem dX11_readText_161 : decode cX11_readText 161 = .ok (.getfield 234, 3) := by decide +kernel
theorem dX11_readText_164 : decode cX11_readText 164 = .ok (.ifCond .ne 7, 3) := by decide +kernel
theorem dX11_readText_167 : decode cX11_readText 167 = .ok (.aload_n 0, 1) := by decide +kernel
theorem dX11_readText_168 : decode cX11_readText 168 = .ok (.invokevirtual 246, 3) := by decide +kernel
theorem dX11_readText_171 : decode cX11_readText 171 = .ok (.goto (-165), 3) := by decide +kernel
theorem dX11_readText_174 : decode cX11_readText 174 = .ok (.aload_n 0, 1) := by decide +kernel
theorem dX11_readText_175 : decode cX11_readText 175 = .ok (.getfield 81, 3) := by decide +kernel
theorem dX11_readText_178 : decode cX11_readText 178 = .ok (.bipush 13, 2) := by decide +kernel
theorem dX11_readText_180 : decode cX11_readText 180 = .ok (.aload_n 0, 1) := by decide +kernel
theorem dX11_readText_181 : decode cX11_readText 181 = .ok (.getfield 240, 3) := by decide +kernel
theorem dX11_readText_184 : decode cX11_readText 184 = .ok (.imul, 1) := by decide +kernel
theorem dX11_readText_185 : decode cX11_readText 185 = .ok (.iload_n 1, 1) := by decide +kernel
theorem dX11_readText_186 : decode cX11_readText 186 = .ok (.iadd, 1) := by decide +kernel
theorem dX11_readText_187 : decode cX11_readText 187 = .ok (.aload_n 0, 1) := by decide +kernel
theorem dX11_readText_188 : decode cX11_readText 188 = .ok (.getfield 243, 3) := by decide +kernel
theorem dX11_readText_191 : decode cX11_readText 191 = .ok (.iastore, 1) := by decide +kernel
theorem dX11_readText_192 : decode cX11_readText 192 = .ok (.aload_n 0, 1) := by decide +kernel
theorem dX11_readText_193 : decode cX11_readText 193 = .ok (.getfield 78, 3) := by decide +kernel
theorem dX11_readText_196 : decode cX11_readText 196 = .ok (.aload_n 0, 1) := by decide +kernel
theorem dX11_readText_197 : decode cX11_readText 197 = .ok (.getfield 240, 3) := by decide +kernel
theorem dX11_readText_200 : decode cX11_readText 200 = .ok (.iload_n 1, 1) := by decide +kernel
theorem dX11_readText_201 : decode cX11_readText 201 = .ok (.iastore, 1) := by decide +kernel
theorem dX11_readText_202 : decode cX11_readText 202 = .ok (.return_, 1) := by decide +kernel
theorem dX11_readExpression_0 : decode cX11_readExpression 0 = .ok (.aload_n 0, 1) := by decide +kernel
theorem dX11_readExpression_1 : decode cX11_readExpression 1 = .ok (.getfield 215, 3) := by decide +kernel
theorem dX11_readExpression_4 : decode cX11_readExpression 4 = .ok (.iconst 1, 1) := by decide +kernel
theorem dX11_readExpression_5 : decode cX11_readExpression 5 = .ok (.if_icmp .eq 20, 3) := by decide +kernel
theorem dX11_readExpression_8 : decode cX11_readExpression 8 = .ok (.aload_n 0, 1) := by decide +kernel
theorem dX11_readExpression_9 : decode cX11_readExpression 9 = .ok (.getfield 215, 3) := by decide +kernel
theorem dX11_readExpression_12 : decode cX11_readExpression 12 = .ok (.iconst 2, 1) := by decide +kernel
theorem dX11_readExpression_13 : decode cX11_readExpression 13 = .ok (.if_icmp .eq 12, 3) := by decide +kernel
theorem dX11_readExpression_16 : decode cX11_readExpression 16 = .ok (.aload_n 0, 1) := by decide +kernel
theorem dX11_readExpression_17 : decode cX11_readExpression 17 = .ok (.bipush 40, 2) := by decide +kernel
theorem dX11_readExpression_19 : decode cX11_readExpression 19 = .ok (.invokevirtual 265, 3) := by decide +kernel
theorem dX11_readExpression_22 : decode cX11_readExpression 22 = .ok (.ifCond .eq 7, 3) := by decide +kernel
theorem dX11_readExpression_25 : decode cX11_readExpression 25 = .ok (.iconst 1, 1) := by decide +kernel
theorem dX11_readExpression_26 : decode cX11_readExpression 26 = .ok (.goto 4, 3) := by decide +kernel
theorem dX11_readExpression_29 : decode cX11_readExpression 29 = .ok (.iconst 0, 1) := by decide +kernel
theorem dX11_readExpression_30 : decode cX11_readExpression 30 = .ok (.istore_n 2, 1) := by decide +kernel
theorem dX11_readExpression_31 : decode cX11_readExpression 31 = .ok (.iload_n 2, 1) := by decide +kernel
theorem dX11_readExpression_32 : decode cX11_readExpression 32 = .ok (.ifCond .ne 11, 3) := by decide +kernel
theorem dX11_readExpression_35 : decode cX11_readExpression 35 = .ok (.aload_n 0, 1) := by decide +kernel
theorem dX11_readExpression_36 : decode cX11_readExpression 36 = .ok (.iconst 1, 1) := by decide +kernel
theorem dX11_readExpression_37 : decode cX11_readExpression 37 = .ok (.invokevirtual 259, 3) := by decide +kernel
theorem dX11_readExpression_40 : decode cX11_readExpression 40 = .ok (.goto 14, 3) := by decide +kernel
theorem dX11_readExpression_43 : decode cX11_readExpression 43 = .ok (.iload_n 1, 1) := by decide +kernel
theorem dX11_readExpression_44 : decode cX11_readExpression 44 = .ok (.bipush 6, 2) := by decide +kernel
theorem dX11_readExpression_46 : decode cX11_readExpression 46 = .ok (.if_icmp .ne 8, 3) := by decide +kernel
theorem dX11_readExpression_49 : decode cX11_readExpression 49 = .ok (.aload_n 0, 1) := by decide +kernel
theorem dX11_readExpression_50 : decode cX11_readExpression 50 = .ok (.iconst 2, 1) := by decide +kernel
theorem dX11_readExpression_51 : decode cX11_readExpression 51 = .ok (.invokevirtual 259, 3) := by decide +kernel
theorem dX11_readExpression_54 : decode cX11_readExpression 54 = .ok (.aload_n 0, 1) := by decide +kernel
theorem dX11_readExpression_55 : decode cX11_readExpression 55 = .ok (.getfield 234, 3) := by decide +kernel
theorem dX11_readExpression_58 : decode cX11_readExpression 58 = .ok (.ifCond .eq 4, 3) := by decide +kernel
theorem dX11_readExpression_61 : decode cX11_readExpression 61 = .ok (.return_, 1) := by decide +kernel
theorem dX11_readExpression_62 : decode cX11_readExpression 62 = .ok (.aload_n 0, 1) := by decide +kernel
theorem dX11_readExpression_63 : decode cX11_readExpression 63 = .ok (.iload_n 1, 1) := by decide +kernel
theorem dX11_readExpression_64 : decode cX11_readExpression 64 = .ok (.invokevirtual 268, 3) := by decide +kernel
theorem dX11_readExpression_67 : decode cX11_readExpression 67 = .ok (.aload_n 0, 1) := by decide +kernel
theorem dX11_readExpression_68 : decode cX11_readExpression 68 = .ok (.getfield 234, 3) := by decide +kernel
theorem dX11_readExpression_71 : decode cX11_readExpression 71 = .ok (.ifCond .ne 57, 3) := by decide +kernel
theorem dX11_readExpression_74 : decode cX11_readExpression 74 = .ok (.aload_n 0, 1) := by decide +kernel
theorem dX11_readExpression_75 : decode cX11_readExpression 75 = .ok (.ldc_w 271, 3) := by decide +kernel
theorem dX11_readExpression_78 : decode cX11_readExpression 78 = .ok (.invokevirtual 251, 3) := by decide +kernel
theorem dX11_readExpression_81 : decode cX11_readExpression 81 = .ok (.ifCond .ne 13, 3) := by decide +kernel
theorem dX11_readExpression_84 : decode cX11_readExpression 84 = .ok (.aload_n 0, 1) := by decide +kernel
theorem dX11_readExpression_85 : decode cX11_readExpression 85 = .ok (.ldc_w 273, 3) := by decide +kernel
theorem dX11_readExpression_88 : decode cX11_readExpression 88 = .ok (.invokevirtual 251, 3) := by decide +kernel
theorem dX11_readExpression_91 : decode cX11_readExpression 91 = .ok (.ifCond .eq 37, 3) := by decide +kernel
theorem dX11_readExpression_94 : decode cX11_readExpression 94 = .ok (.aload_n 0, 1) := by decide +kernel
theorem dX11_readExpression_95 : decode cX11_readExpression 95 = .ok (.ldc_w 271, 3) := by decide +kernel
theorem dX11_readExpression_98 : decode cX11_readExpression 98 = .ok (.invokevirtual 251, 3) := by decide +kernel
theorem dX11_readExpression_101 : decode cX11_readExpression 101 = .ok (.ifCond .eq 7, 3) := by decide +kernel
theorem dX11_readExpression_104 : decode cX11_readExpression 104 = .ok (.iconst 5, 1) := by decide +kernel
theorem dX11_readExpression_105 : decode cX11_readExpression 105 = .ok (.goto 5, 3) := by decide +kernel
theorem dX11_readExpression_108 : decode cX11_readExpression 108 = .ok (.bipush 6, 2) := by decide +kernel
theorem dX11_readExpression_110 : decode cX11_readExpression 110 = .ok (.istore_n 3, 1) := by decide +kernel
theorem dX11_readExpression_111 : decode cX11_readExpression 111 = .ok (.aload_n 0, 1) := by decide +kernel
theorem dX11_readExpression_112 : decode cX11_readExpression 112 = .ok (.invokevirtual 246, 3) := by decide +kernel
theorem dX11_readExpression_115 : decode cX11_readExpression 115 = .ok (.aload_n 0, 1) := by decide +kernel
theorem dX11_readExpression_116 : decode cX11_readExpression 116 = .ok (.iload_n 1, 1) := by decide +kernel
theorem dX11_readExpression_117 : decode cX11_readExpression 117 = .ok (.invokevirtual 268, 3) := by decide +kernel
theorem dX11_readExpression_120 : decode cX11_readExpression 120 = .ok (.aload_n 0, 1) := by decide +kernel
theorem dX11_readExpression_121 : decode cX11_readExpression 121 = .ok (.iload_n 3, 1) := by decide +kernel
theorem dX11_readExpression_122 : decode cX11_readExpression 122 = .ok (.invokevirtual 275, 3) := by decide +kernel
theorem dX11_readExpression_125 : decode cX11_readExpression 125 = .ok (.goto (-58), 3) := by decide +kernel
theorem dX11_readExpression_128 : decode cX11_readExpression 128 = .ok (.return_, 1) := by decide +kernel
theorem dX11_readTest_0 : decode cX11_readTest 0 = .ok (.aload_n 0, 1) := by decide +kernel
theorem dX11_readTest_1 : decode cX11_readTest 1 = .ok (.ldc_w 278, 3) := by decide +kernel
theorem dX11_readTest_4 : decode cX11_readTest 4 = .ok (.invokevirtual 251, 3) := by decide +kernel
theorem dX11_readTest_7 : decode cX11_readTest 7 = .ok (.istore_n 2, 1) := by decide +kernel
theorem dX11_readTest_8 : decode cX11_readTest 8 = .ok (.iload_n 2, 1) := by decide +kernel
theorem dX11_readTest_9 : decode cX11_readTest 9 = .ok (.ifCond .eq 7, 3) := by decide +kernel
theorem dX11_readTest_12 : decode cX11_readTest 12 = .ok (.aload_n 0, 1) := by decide +kernel
theorem dX11_readTest_13 : decode cX11_readTest 13 = .ok (.invokevirtual 246, 3) := by decide +kernel
theorem dX11_readTest_16 : decode cX11_readTest 16 = .ok (.aload_n 0, 1) := by decide +kernel
theorem dX11_readTest_17 : decode cX11_readTest 17 = .ok (.iload_n 1, 1) := by decide +kernel
theorem dX11_readTest_18 : decode cX11_readTest 18 = .ok (.invokevirtual 280, 3) := by decide +kernel
theorem dX11_readTest_21 : decode cX11_readTest 21 = .ok (.aload_n 0, 1) := by decide +kernel
theorem dX11_readTest_22 : decode cX11_readTest 22 = .ok (.getfield 234, 3) := by decide +kernel
theorem dX11_readTest_25 : decode cX11_readTest 25 = .ok (.ifCond .ne 50, 3) := by decide +kernel
theorem dX11_readTest_28 : decode cX11_readTest 28 = .ok (.aload_n 0, 1) := by decide +kernel
theorem dX11_readTest_29 : decode cX11_readTest 29 = .ok (.bipush 60, 2) := by decide +kernel
theorem dX11_readTest_31 : decode cX11_readTest 31 = .ok (.invokevirtual 265, 3) := by decide +kernel
theorem dX11_readTest_34 : decode cX11_readTest 34 = .ok (.ifCond .ne 12, 3) := by decide +kernel
theorem dX11_readTest_37 : decode cX11_readTest 37 = .ok (.aload_n 0, 1) := by decide +kernel
theorem dX11_readTest_38 : decode cX11_readTest 38 = .ok (.bipush 61, 2) := by decide +kernel
theorem dX11_readTest_40 : decode cX11_readTest 40 = .ok (.invokevirtual 265, 3) := by decide +kernel
theorem dX11_readTest_43 : decode cX11_readTest 43 = .ok (.ifCond .eq 32, 3) := by decide +kernel
theorem dX11_readTest_46 : decode cX11_readTest 46 = .ok (.aload_n 0, 1) := by decide +kernel
theorem dX11_readTest_47 : decode cX11_readTest 47 = .ok (.bipush 60, 2) := by decide +kernel
theorem dX11_readTest_49 : decode cX11_readTest 49 = .ok (.invokevirtual 265, 3) := by decide +kernel
theorem dX11_readTest_52 : decode cX11_readTest 52 = .ok (.ifCond .eq 7, 3) := by decide +kernel
theorem dX11_readTest_55 : decode cX11_readTest 55 = .ok (.iconst 3, 1) := by decide +kernel
theorem dX11_readTest_56 : decode cX11_readTest 56 = .ok (.goto 4, 3) := by decide +kernel
theorem dX11_readTest_59 : decode cX11_readTest 59 = .ok (.iconst 4, 1) := by decide +kernel
theorem dX11_readTest_60 : decode cX11_readTest 60 = .ok (.istore_n 3, 1) := by decide +kernel
theorem dX11_readTest_61 : decode cX11_readTest 61 = .ok (.aload_n 0, 1) := by decide +kernel
theorem dX11_readTest_62 : decode cX11_readTest 62 = .ok (.invokevirtual 246, 3) := by decide +kernel
theorem dX11_readTest_65 : decode cX11_readTest 65 = .ok (.aload_n 0, 1) := by decide +kernel
theorem dX11_readTest_66 : decode cX11_readTest 66 = .ok (.iload_n 1, 1) := by decide +kernel
theorem dX11_readTest_67 : decode cX11_readTest 67 = .ok (.invokevirtual 280, 3) := by decide +kernel
theorem dX11_readTest_70 : decode cX11_readTest 70 = .ok (.aload_n 0, 1) := by decide +kernel
theorem dX11_readTest_71 : decode cX11_readTest 71 = .ok (.iload_n 3, 1) := by decide +kernel
theorem dX11_readTest_72 : decode cX11_readTest 72 = .ok (.invokevirtual 275, 3) := by decide +kernel
theorem dX11_readTest_75 : decode cX11_readTest 75 = .ok (.iload_n 2, 1) := by decide +kernel
theorem dX11_readTest_76 : decode cX11_readTest 76 = .ok (.ifCond .eq 9, 3) := by decide +kernel
theorem dX11_readTest_79 : decode cX11_readTest 79 = .ok (.aload_n 0, 1) := by decide +kernel
theorem dX11_readTest_80 : decode cX11_readTest 80 = .ok (.bipush 7, 2) := by decide +kernel
theorem dX11_readTest_82 : decode cX11_readTest 82 = .ok (.invokevirtual 275, 3) := by decide +kernel
theorem dX11_readTest_85 : decode cX11_readTest 85 = .ok (.return_, 1) := by decide +kernel
theorem dX11_readSum_0 : decode cX11_readSum 0 = .ok (.aload_n 0, 1) := by decide +kernel
theorem dX11_readSum_1 : decode cX11_readSum 1 = .ok (.iload_n 1, 1) := by decide +kernel
theorem dX11_readSum_2 : decode cX11_readSum 2 = .ok (.invokevirtual 283, 3) := by decide +kernel
theorem dX11_readSum_5 : decode cX11_readSum 5 = .ok (.aload_n 0, 1) := by decide +kernel
theorem dX11_readSum_6 : decode cX11_readSum 6 = .ok (.getfield 234, 3) := by decide +kernel
theorem dX11_readSum_9 : decode cX11_readSum 9 = .ok (.ifCond .ne 53, 3) := by decide +kernel
theorem dX11_readSum_12 : decode cX11_readSum 12 = .ok (.aload_n 0, 1) := by decide +kernel
theorem dX11_readSum_13 : decode cX11_readSum 13 = .ok (.bipush 43, 2) := by decide +kernel
theorem dX11_readSum_15 : decode cX11_readSum 15 = .ok (.invokevirtual 265, 3) := by decide +kernel
theorem dX11_readSum_18 : decode cX11_readSum 18 = .ok (.ifCond .ne 12, 3) := by decide +kernel
theorem dX11_readSum_21 : decode cX11_readSum 21 = .ok (.aload_n 0, 1) := by decide +kernel
theorem dX11_readSum_22 : decode cX11_readSum 22 = .ok (.bipush 45, 2) := by decide +kernel
theorem dX11_readSum_24 : decode cX11_readSum 24 = .ok (.invokevirtual 265, 3) := by decide +kernel
theorem dX11_readSum_27 : decode cX11_readSum 27 = .ok (.ifCond .eq 35, 3) := by decide +kernel
theorem dX11_readSum_30 : decode cX11_readSum 30 = .ok (.aload_n 0, 1) := by decide +kernel
theorem dX11_readSum_31 : decode cX11_readSum 31 = .ok (.bipush 43, 2) := by decide +kernel
theorem dX11_readSum_33 : decode cX11_readSum 33 = .ok (.invokevirtual 265, 3) := by decide +kernel
theorem dX11_readSum_36 : decode cX11_readSum 36 = .ok (.ifCond .eq 7, 3) := by decide +kernel
theorem dX11_readSum_39 : decode cX11_readSum 39 = .ok (.iconst 1, 1) := by decide +kernel
theorem dX11_readSum_40 : decode cX11_readSum 40 = .ok (.goto 4, 3) := by decide +kernel
theorem dX11_readSum_43 : decode cX11_readSum 43 = .ok (.iconst 2, 1) := by decide +kernel
theorem dX11_readSum_44 : decode cX11_readSum 44 = .ok (.istore_n 2, 1) := by decide +kernel
theorem dX11_readSum_45 : decode cX11_readSum 45 = .ok (.aload_n 0, 1) := by decide +kernel
theorem dX11_readSum_46 : decode cX11_readSum 46 = .ok (.invokevirtual 246, 3) := by decide +kernel
theorem dX11_readSum_49 : decode cX11_readSum 49 = .ok (.aload_n 0, 1) := by decide +kernel
theorem dX11_readSum_50 : decode cX11_readSum 50 = .ok (.iload_n 1, 1) := by decide +kernel
theorem dX11_readSum_51 : decode cX11_readSum 51 = .ok (.invokevirtual 283, 3) := by decide +kernel
theorem dX11_readSum_54 : decode cX11_readSum 54 = .ok (.aload_n 0, 1) := by decide +kernel
theorem dX11_readSum_55 : decode cX11_readSum 55 = .ok (.iload_n 2, 1) := by decide +kernel
theorem dX11_readSum_56 : decode cX11_readSum 56 = .ok (.invokevirtual 275, 3) := by decide +kernel
theorem dX11_readSum_59 : decode cX11_readSum 59 = .ok (.goto (-54), 3) := by decide +kernel
theorem dX11_readSum_62 : decode cX11_readSum 62 = .ok (.return_, 1) := by decide +kernel
theorem dX11_readPart_0 : decode cX11_readPart 0 = .ok (.aload_n 0, 1) := by decide +kernel
theorem dX11_readPart_1 : decode cX11_readPart 1 = .ok (.getfield 234, 3) := by decide +kernel
theorem dX11_readPart_4 : decode cX11_readPart 4 = .ok (.ifCond .eq 4, 3) := by decide +kernel
theorem dX11_readPart_7 : decode cX11_readPart 7 = .ok (.return_, 1) := by decide +kernel
theorem dX11_readPart_8 : decode cX11_readPart 8 = .ok (.aload_n 0, 1) := by decide +kernel
theorem dX11_readPart_9 : decode cX11_readPart 9 = .ok (.getfield 215, 3) := by decide +kernel
theorem dX11_readPart_12 : decode cX11_readPart 12 = .ok (.iconst 2, 1) := by decide +kernel
theorem dX11_readPart_13 : decode cX11_readPart 13 = .ok (.if_icmp .ne 77, 3) := by decide +kernel
theorem dX11_readPart_16 : decode cX11_readPart 16 = .ok (.aload_n 0, 1) := by decide +kernel
theorem dX11_readPart_17 : decode cX11_readPart 17 = .ok (.getfield 224, 3) := by decide +kernel
theorem dX11_readPart_20 : decode cX11_readPart 20 = .ok (.aload_n 0, 1) := by decide +kernel
theorem dX11_readPart_21 : decode cX11_readPart 21 = .ok (.getfield 209, 3) := by decide +kernel
theorem dX11_readPart_24 : decode cX11_readPart 24 = .ok (.isub, 1) := by decide +kernel
theorem dX11_readPart_25 : decode cX11_readPart 25 = .ok (.iconst 4, 1) := by decide +kernel
theorem dX11_readPart_26 : decode cX11_readPart 26 = .ok (.if_icmp .le 8, 3) := by decide +kernel
theorem dX11_readPart_29 : decode cX11_readPart 29 = .ok (.aload_n 0, 1) := by decide +kernel
theorem dX11_readPart_30 : decode cX11_readPart 30 = .ok (.iconst 2, 1) := by decide +kernel
theorem dX11_readPart_31 : decode cX11_readPart 31 = .ok (.invokevirtual 259, 3) := by decide +kernel
theorem dX11_readPart_34 : decode cX11_readPart 34 = .ok (.iconst 0, 1) := by decide +kernel
theorem dX11_readPart_35 : decode cX11_readPart 35 = .ok (.istore_n 2, 1) := by decide +kernel
theorem dX11_readPart_36 : decode cX11_readPart 36 = .ok (.aload_n 0, 1) := by decide +kernel
theorem dX11_readPart_37 : decode cX11_readPart 37 = .ok (.getfield 209, 3) := by decide +kernel
theorem dX11_readPart_40 : decode cX11_readPart 40 = .ok (.istore_n 3, 1) := by decide +kernel
theorem dX11_readPart_41 : decode cX11_readPart 41 = .ok (.iload_n 3, 1) := by decide +kernel
theorem dX11_readPart_42 : decode cX11_readPart 42 = .ok (.aload_n 0, 1) := by decide +kernel
theorem dX11_readPart_43 : decode cX11_readPart 43 = .ok (.getfield 224, 3) := by decide +kernel
theorem dX11_readPart_46 : decode cX11_readPart 46 = .ok (.if_icmp .ge 31, 3) := by decide +kernel
theorem dX11_readPart_49 : decode cX11_readPart 49 = .ok (.aload_n 0, 1) := by decide +kernel
theorem dX11_readPart_50 : decode cX11_readPart 50 = .ok (.getfield 234, 3) := by decide +kernel
theorem dX11_readPart_53 : decode cX11_readPart 53 = .ok (.ifCond .ne 24, 3) := by decide +kernel
theorem dX11_readPart_56 : decode cX11_readPart 56 = .ok (.bipush 10, 2) := by decide +kernel
theorem dX11_readPart_58 : decode cX11_readPart 58 = .ok (.iload_n 2, 1) := by decide +kernel
theorem dX11_readPart_59 : decode cX11_readPart 59 = .ok (.imul, 1) := by decide +kernel
theorem dX11_readPart_60 : decode cX11_readPart 60 = .ok (.aload_n 0, 1) := by decide +kernel
theorem dX11_readPart_61 : decode cX11_readPart 61 = .ok (.getfield 72, 3) := by decide +kernel
theorem dX11_readPart_64 : decode cX11_readPart 64 = .ok (.iload_n 3, 1) := by decide +kernel
theorem dX11_readPart_65 : decode cX11_readPart 65 = .ok (.iaload, 1) := by decide +kernel
theorem dX11_readPart_66 : decode cX11_readPart 66 = .ok (.iadd, 1) := by decide +kernel
theorem dX11_readPart_67 : decode cX11_readPart 67 = .ok (.bipush 48, 2) := by decide +kernel
theorem dX11_readPart_69 : decode cX11_readPart 69 = .ok (.isub, 1) := by decide +kernel
theorem dX11_readPart_70 : decode cX11_readPart 70 = .ok (.istore_n 2, 1) := by decide +kernel
theorem dX11_readPart_71 : decode cX11_readPart 71 = .ok (.iinc 3 1, 3) := by decide +kernel
theorem dX11_readPart_74 : decode cX11_readPart 74 = .ok (.goto (-33), 3) := by decide +kernel
theorem dX11_readPart_77 : decode cX11_readPart 77 = .ok (.aload_n 0, 1) := by decide +kernel
theorem dX11_readPart_78 : decode cX11_readPart 78 = .ok (.iconst 0, 1) := by decide +kernel
theorem dX11_readPart_79 : decode cX11_readPart 79 = .ok (.invokevirtual 275, 3) := by decide +kernel
theorem dX11_readPart_82 : decode cX11_readPart 82 = .ok (.aload_n 0, 1) := by decide +kernel
theorem dX11_readPart_83 : decode cX11_readPart 83 = .ok (.iload_n 2, 1) := by decide +kernel
theorem dX11_readPart_84 : decode cX11_readPart 84 = .ok (.invokevirtual 275, 3) := by decide +kernel
theorem dX11_readPart_87 : decode cX11_readPart 87 = .ok (.goto 112, 3) := by decide +kernel
theorem dX11_readPart_90 : decode cX11_readPart 90 = .ok (.aload_n 0, 1) := by decide +kernel
theorem dX11_readPart_91 : decode cX11_readPart 91 = .ok (.getfield 215, 3) := by decide +kernel
theorem dX11_readPart_94 : decode cX11_readPart 94 = .ok (.iconst 1, 1) := by decide +kernel
theorem dX11_readPart_95 : decode cX11_readPart 95 = .ok (.if_icmp .ne 55, 3) := by decide +kernel
theorem dX11_readPart_98 : decode cX11_readPart 98 = .ok (.iconst (-1), 1) := by decide +kernel
theorem dX11_readPart_99 : decode cX11_readPart 99 = .ok (.istore_n 2, 1) := by decide +kernel
theorem dX11_readPart_100 : decode cX11_readPart 100 = .ok (.iconst 0, 1) := by decide +kernel
theorem dX11_readPart_101 : decode cX11_readPart 101 = .ok (.istore_n 3, 1) := by decide +kernel
theorem dX11_readPart_102 : decode cX11_readPart 102 = .ok (.iload_n 3, 1) := by decide +kernel
theorem dX11_readPart_103 : decode cX11_readPart 103 = .ok (.bipush 8, 2) := by decide +kernel
theorem dX11_readPart_105 : decode cX11_readPart 105 = .ok (.if_icmp .ge 24, 3) := by decide +kernel
theorem dX11_readPart_108 : decode cX11_readPart 108 = .ok (.aload_n 0, 1) := by decide +kernel
theorem dX11_readPart_109 : decode cX11_readPart 109 = .ok (.aload_n 0, 1) := by decide +kernel
theorem dX11_readPart_110 : decode cX11_readPart 110 = .ok (.getfield 25, 3) := by decide +kernel
theorem dX11_readPart_113 : decode cX11_readPart 113 = .ok (.iload_n 3, 1) := by decide +kernel
theorem dX11_readPart_114 : decode cX11_readPart 114 = .ok (.aaload, 1) := by decide +kernel
theorem dX11_readPart_115 : decode cX11_readPart 115 = .ok (.invokevirtual 251, 3) := by decide +kernel
theorem dX11_readPart_118 : decode cX11_readPart 118 = .ok (.ifCond .eq 5, 3) := by decide +kernel
theorem dX11_readPart_121 : decode cX11_readPart 121 = .ok (.iload_n 3, 1) := by decide +kernel
theorem dX11_readPart_122 : decode cX11_readPart 122 = .ok (.istore_n 2, 1) := by decide +kernel
theorem dX11_readPart_123 : decode cX11_readPart 123 = .ok (.iinc 3 1, 3) := by decide +kernel
theorem dX11_readPart_126 : decode cX11_readPart 126 = .ok (.goto (-24), 3) := by decide +kernel
theorem dX11_readPart_129 : decode cX11_readPart 129 = .ok (.iload_n 2, 1) := by decide +kernel
theorem dX11_readPart_130 : decode cX11_readPart 130 = .ok (.iconst (-1), 1) := by decide +kernel
theorem dX11_readPart_131 : decode cX11_readPart 131 = .ok (.if_icmp .ne 8, 3) := by decide +kernel
theorem dX11_readPart_134 : decode cX11_readPart 134 = .ok (.aload_n 0, 1) := by decide +kernel
theorem dX11_readPart_135 : decode cX11_readPart 135 = .ok (.iconst 3, 1) := by decide +kernel
theorem dX11_readPart_136 : decode cX11_readPart 136 = .ok (.invokevirtual 259, 3) := by decide +kernel
theorem dX11_readPart_139 : decode cX11_readPart 139 = .ok (.aload_n 0, 1) := by decide +kernel
theorem dX11_readPart_140 : decode cX11_readPart 140 = .ok (.bipush 20, 2) := by decide +kernel
theorem dX11_readPart_142 : decode cX11_readPart 142 = .ok (.iload_n 2, 1) := by decide +kernel
theorem dX11_readPart_143 : decode cX11_readPart 143 = .ok (.iadd, 1) := by decide +kernel
theorem dX11_readPart_144 : decode cX11_readPart 144 = .ok (.invokevirtual 275, 3) := by decide +kernel
theorem dX11_readPart_147 : decode cX11_readPart 147 = .ok (.goto 52, 3) := by decide +kernel
theorem dX11_readPart_150 : decode cX11_readPart 150 = .ok (.aload_n 0, 1) := by decide +kernel
theorem dX11_readPart_151 : decode cX11_readPart 151 = .ok (.bipush 40, 2) := by decide +kernel
theorem dX11_readPart_153 : decode cX11_readPart 153 = .ok (.invokevirtual 265, 3) := by decide +kernel
theorem dX11_readPart_156 : decode cX11_readPart 156 = .ok (.ifCond .eq 38, 3) := by decide +kernel
theorem dX11_readPart_159 : decode cX11_readPart 159 = .ok (.aload_n 0, 1) := by decide +kernel
theorem dX11_readPart_160 : decode cX11_readPart 160 = .ok (.invokevirtual 246, 3) := by decide +kernel
theorem dX11_readPart_163 : decode cX11_readPart 163 = .ok (.aload_n 0, 1) := by decide +kernel
theorem dX11_readPart_164 : decode cX11_readPart 164 = .ok (.iload_n 1, 1) := by decide +kernel
theorem dX11_readPart_165 : decode cX11_readPart 165 = .ok (.iconst 1, 1) := by decide +kernel
theorem dX11_readPart_166 : decode cX11_readPart 166 = .ok (.iadd, 1) := by decide +kernel
theorem dX11_readPart_167 : decode cX11_readPart 167 = .ok (.invokevirtual 262, 3) := by decide +kernel
theorem dX11_readPart_170 : decode cX11_readPart 170 = .ok (.aload_n 0, 1) := by decide +kernel
theorem dX11_readPart_171 : decode cX11_readPart 171 = .ok (.getfield 234, 3) := by decide +kernel
theorem dX11_readPart_174 : decode cX11_readPart 174 = .ok (.ifCond .ne 25, 3) := by decide +kernel
theorem dX11_readPart_177 : decode cX11_readPart 177 = .ok (.aload_n 0, 1) := by decide +kernel
theorem dX11_readPart_178 : decode cX11_readPart 178 = .ok (.bipush 41, 2) := by decide +kernel
theorem dX11_readPart_180 : decode cX11_readPart 180 = .ok (.invokevirtual 265, 3) := by decide +kernel
theorem dX11_readPart_183 : decode cX11_readPart 183 = .ok (.ifCond .ne 16, 3) := by decide +kernel
theorem dX11_readPart_186 : decode cX11_readPart 186 = .ok (.aload_n 0, 1) := by decide +kernel
theorem dX11_readPart_187 : decode cX11_readPart 187 = .ok (.iconst 1, 1) := by decide +kernel
theorem dX11_readPart_188 : decode cX11_readPart 188 = .ok (.invokevirtual 259, 3) := by decide +kernel
theorem dX11_readPart_191 : decode cX11_readPart 191 = .ok (.goto 8, 3) := by decide +kernel
theorem dX11_readPart_194 : decode cX11_readPart 194 = .ok (.aload_n 0, 1) := by decide +kernel
theorem dX11_readPart_195 : decode cX11_readPart 195 = .ok (.iconst 1, 1) := by decide +kernel
theorem dX11_readPart_196 : decode cX11_readPart 196 = .ok (.invokevirtual 259, 3) := by decide +kernel
theorem dX11_readPart_199 : decode cX11_readPart 199 = .ok (.aload_n 0, 1) := by decide +kernel
theorem dX11_readPart_200 : decode cX11_readPart 200 = .ok (.getfield 234, 3) := by decide +kernel
theorem dX11_readPart_203 : decode cX11_readPart 203 = .ok (.ifCond .ne 7, 3) := by decide +kernel
theorem dX11_readPart_206 : decode cX11_readPart 206 = .ok (.aload_n 0, 1) := by decide +kernel
theorem dX11_readPart_207 : decode cX11_readPart 207 = .ok (.invokevirtual 246, 3) := by decide +kernel
theorem dX11_readPart_210 : decode cX11_readPart 210 = .ok (.return_, 1) := by decide +kernel
theorem dX11_text_0 : decode cX11_text 0 = .ok (.aload_n 0, 1) := by decide +kernel
theorem dX11_text_1 : decode cX11_text 1 = .ok (.iconst 0, 1) := by decide +kernel
theorem dX11_text_2 : decode cX11_text 2 = .ok (.putfield 110, 3) := by decide +kernel
theorem dX11_text_5 : decode cX11_text 5 = .ok (.iload_n 1, 1) := by decide +kernel
theorem dX11_text_6 : decode cX11_text 6 = .ok (.ifCond .lt 18, 3) := by decide +kernel
theorem dX11_text_9 : decode cX11_text 9 = .ok (.iload_n 1, 1) := by decide +kernel
theorem dX11_text_10 : decode cX11_text 10 = .ok (.aload_n 0, 1) := by decide +kernel
theorem dX11_text_11 : decode cX11_text 11 = .ok (.getfield 197, 3) := by decide +kernel
theorem dX11_text_14 : decode cX11_text 14 = .ok (.if_icmp .gt 10, 3) := by decide +kernel
theorem dX11_text_17 : decode cX11_text 17 = .ok (.iload_n 2, 1) := by decide +kernel
theorem dX11_text_18 : decode cX11_text 18 = .ok (.invokestatic 116, 3) := by decide +kernel
theorem dX11_text_21 : decode cX11_text 21 = .ok (.ifCond .ne 8, 3) := by decide +kernel
theorem dX11_text_24 : decode cX11_text 24 = .ok (.aload_n 0, 1) := by decide +kernel
theorem dX11_text_25 : decode cX11_text 25 = .ok (.invokevirtual 127, 3) := by decide +kernel
theorem dX11_text_28 : decode cX11_text 28 = .ok (.ireturn, 1) := by decide +kernel
theorem dX11_text_29 : decode cX11_text 29 = .ok (.aload_n 0, 1) := by decide +kernel
theorem dX11_text_30 : decode cX11_text 30 = .ok (.iconst 0, 1) := by decide +kernel
theorem dX11_text_31 : decode cX11_text 31 = .ok (.putfield 197, 3) := by decide +kernel
theorem dX11_text_34 : decode cX11_text 34 = .ok (.aload_n 0, 1) := by decide +kernel
theorem dX11_text_35 : decode cX11_text 35 = .ok (.iconst (-1), 1) := by decide +kernel
theorem dX11_text_36 : decode cX11_text 36 = .ok (.putfield 31, 3) := by decide +kernel
theorem dX11_text_39 : decode cX11_text 39 = .ok (.aload_n 0, 1) := by decide +kernel
theorem dX11_text_40 : decode cX11_text 40 = .ok (.getfield 240, 3) := by decide +kernel
theorem dX11_text_43 : decode cX11_text 43 = .ok (.bipush 6, 2) := by decide +kernel
theorem dX11_text_45 : decode cX11_text 45 = .ok (.if_icmp .ne 6, 3) := by decide +kernel
theorem dX11_text_48 : decode cX11_text 48 = .ok (.bipush (-9), 2) := by decide +kernel
theorem dX11_text_50 : decode cX11_text 50 = .ok (.ireturn, 1) := by decide +kernel
theorem dX11_text_51 : decode cX11_text 51 = .ok (.aload_n 0, 1) := by decide +kernel
theorem dX11_text_52 : decode cX11_text 52 = .ok (.iload_n 1, 1) := by decide +kernel
theorem dX11_text_53 : decode cX11_text 53 = .ok (.putfield 200, 3) := by decide +kernel
theorem dX11_text_56 : decode cX11_text 56 = .ok (.aload_n 0, 1) := by decide +kernel
theorem dX11_text_57 : decode cX11_text 57 = .ok (.iconst 0, 1) := by decide +kernel
theorem dX11_text_58 : decode cX11_text 58 = .ok (.putfield 203, 3) := by decide +kernel
theorem dX11_text_61 : decode cX11_text 61 = .ok (.aload_n 0, 1) := by decide +kernel
theorem dX11_text_62 : decode cX11_text 62 = .ok (.iconst 0, 1) := by decide +kernel
theorem dX11_text_63 : decode cX11_text 63 = .ok (.putfield 234, 3) := by decide +kernel
theorem dX11_text_66 : decode cX11_text 66 = .ok (.aload_n 0, 1) := by decide +kernel
theorem dX11_text_67 : decode cX11_text 67 = .ok (.iconst 0, 1) := by decide +kernel
theorem dX11_text_68 : decode cX11_text 68 = .ok (.putfield 243, 3) := by decide +kernel
theorem dX11_text_71 : decode cX11_text 71 = .ok (.aload_n 0, 1) := by decide +kernel
theorem dX11_text_72 : decode cX11_text 72 = .ok (.invokevirtual 286, 3) := by decide +kernel
theorem dX11_text_75 : decode cX11_text 75 = .ok (.aload_n 0, 1) := by decide +kernel
theorem dX11_text_76 : decode cX11_text 76 = .ok (.getfield 234, 3) := by decide +kernel
theorem dX11_text_79 : decode cX11_text 79 = .ok (.ifCond .eq 18, 3) := by decide +kernel
theorem dX11_text_82 : decode cX11_text 82 = .ok (.aload_n 0, 1) := by decide +kernel
theorem dX11_text_83 : decode cX11_text 83 = .ok (.aload_n 0, 1) := by decide +kernel
theorem dX11_text_84 : decode cX11_text 84 = .ok (.getfield 237, 3) := by decide +kernel
theorem dX11_text_87 : decode cX11_text 87 = .ok (.putfield 31, 3) := by decide +kernel
theorem dX11_text_90 : decode cX11_text 90 = .ok (.iconst (-1), 1) := by decide +kernel
theorem dX11_text_91 : decode cX11_text 91 = .ok (.aload_n 0, 1) := by decide +kernel
theorem dX11_text_92 : decode cX11_text 92 = .ok (.getfield 234, 3) := by decide +kernel
theorem dX11_text_95 : decode cX11_text 95 = .ok (.isub, 1) := by decide +kernel
theorem dX11_text_96 : decode cX11_text 96 = .ok (.ireturn, 1) := by decide +kernel
theorem dX11_text_97 : decode cX11_text 97 = .ok (.aload_n 0, 1) := by decide +kernel
theorem dX11_text_98 : decode cX11_text 98 = .ok (.getfield 75, 3) := by decide +kernel
theorem dX11_text_101 : decode cX11_text 101 = .ok (.aload_n 0, 1) := by decide +kernel
theorem dX11_text_102 : decode cX11_text 102 = .ok (.getfield 240, 3) := by decide +kernel
theorem dX11_text_105 : decode cX11_text 105 = .ok (.iload_n 2, 1) := by decide +kernel
theorem dX11_text_106 : decode cX11_text 106 = .ok (.iastore, 1) := by decide +kernel
theorem dX11_text_107 : decode cX11_text 107 = .ok (.aload_n 0, 1) := by decide +kernel
theorem dX11_text_108 : decode cX11_text 108 = .ok (.dup, 1) := by decide +kernel
theorem dX11_text_109 : decode cX11_text 109 = .ok (.getfield 240, 3) := by decide +kernel
theorem dX11_text_112 : decode cX11_text 112 = .ok (.iconst 1, 1) := by decide +kernel
theorem dX11_text_113 : decode cX11_text 113 = .ok (.iadd, 1) := by decide +kernel
theorem dX11_text_114 : decode cX11_text 114 = .ok (.putfield 240, 3) := by decide +kernel
theorem dX11_text_117 : decode cX11_text 117 = .ok (.aload_n 0, 1) := by decide +kernel
theorem dX11_text_118 : decode cX11_text 118 = .ok (.getfield 240, 3) := by decide +kernel
theorem dX11_text_121 : decode cX11_text 121 = .ok (.iconst 1, 1) := by decide +kernel
theorem dX11_text_122 : decode cX11_text 122 = .ok (.isub, 1) := by decide +kernel
theorem dX11_text_123 : decode cX11_text 123 = .ok (.ireturn, 1) := by decide +kernel
theorem dX11_fault_0 : decode cX11_fault 0 = .ok (.aload_n 0, 1) := by decide +kernel
theorem dX11_fault_1 : decode cX11_fault 1 = .ok (.iconst 0, 1) := by decide +kernel
theorem dX11_fault_2 : decode cX11_fault 2 = .ok (.putfield 110, 3) := by decide +kernel
theorem dX11_fault_5 : decode cX11_fault 5 = .ok (.aload_n 0, 1) := by decide +kernel
theorem dX11_fault_6 : decode cX11_fault 6 = .ok (.getfield 31, 3) := by decide +kernel
theorem dX11_fault_9 : decode cX11_fault 9 = .ok (.ireturn, 1) := by decide +kernel
theorem dX11_value_0 : decode cX11_value 0 = .ok (.iload_n 1, 1) := by decide +kernel
theorem dX11_value_1 : decode cX11_value 1 = .ok (.tableswitch 95 0 6 #[43, 50, 57, 59, 66, 81, 88], 43) := by decide +kernel
theorem dX11_value_44 : decode cX11_value 44 = .ok (.aload_n 0, 1) := by decide +kernel
theorem dX11_value_45 : decode cX11_value 45 = .ok (.iload_n 2, 1) := by decide +kernel
theorem dX11_value_46 : decode cX11_value 46 = .ok (.iload_n 3, 1) := by decide +kernel
theorem dX11_value_47 : decode cX11_value 47 = .ok (.invokevirtual 172, 3) := by decide +kernel
theorem dX11_value_50 : decode cX11_value 50 = .ok (.ireturn, 1) := by decide +kernel
theorem dX11_value_51 : decode cX11_value 51 = .ok (.aload_n 0, 1) := by decide +kernel
theorem dX11_value_52 : decode cX11_value 52 = .ok (.iload_n 2, 1) := by decide +kernel
theorem dX11_value_53 : decode cX11_value 53 = .ok (.iload_n 3, 1) := by decide +kernel
theorem dX11_value_54 : decode cX11_value 54 = .ok (.invokevirtual 160, 3) := by decide +kernel
theorem dX11_value_57 : decode cX11_value 57 = .ok (.ireturn, 1) := by decide +kernel
theorem dX11_value_58 : decode cX11_value 58 = .ok (.iload_n 3, 1) := by decide +kernel
theorem dX11_value_59 : decode cX11_value 59 = .ok (.ireturn, 1) := by decide +kernel
theorem dX11_value_60 : decode cX11_value 60 = .ok (.aload_n 0, 1) := by decide +kernel
theorem dX11_value_61 : decode cX11_value 61 = .ok (.getfield 39, 3) := by decide +kernel
theorem dX11_value_64 : decode cX11_value 64 = .ok (.iload_n 2, 1) := by decide +kernel
theorem dX11_value_65 : decode cX11_value 65 = .ok (.iaload, 1) := by decide +kernel
theorem dX11_value_66 : decode cX11_value 66 = .ok (.ireturn, 1) := by decide +kernel
theorem dX11_value_67 : decode cX11_value 67 = .ok (.aload_n 0, 1) := by decide +kernel
theorem dX11_value_68 : decode cX11_value 68 = .ok (.getfield 35, 3) := by decide +kernel
theorem dX11_value_71 : decode cX11_value 71 = .ok (.iload_n 2, 1) := by decide +kernel
theorem dX11_value_72 : decode cX11_value 72 = .ok (.baload, 1) := by decide +kernel
theorem dX11_value_73 : decode cX11_value 73 = .ok (.ifCond .eq 7, 3) := by decide +kernel
theorem dX11_value_76 : decode cX11_value 76 = .ok (.iconst 1, 1) := by decide +kernel
theorem dX11_value_77 : decode cX11_value 77 = .ok (.goto 4, 3) := by decide +kernel
theorem dX11_value_80 : decode cX11_value 80 = .ok (.iconst 0, 1) := by decide +kernel
theorem dX11_value_81 : decode cX11_value 81 = .ok (.ireturn, 1) := by decide +kernel
theorem dX11_value_82 : decode cX11_value 82 = .ok (.aload_n 0, 1) := by decide +kernel
theorem dX11_value_83 : decode cX11_value 83 = .ok (.iload_n 2, 1) := by decide +kernel
theorem dX11_value_84 : decode cX11_value 84 = .ok (.iload_n 3, 1) := by decide +kernel
theorem dX11_value_85 : decode cX11_value 85 = .ok (.invokevirtual 178, 3) := by decide +kernel
theorem dX11_value_88 : decode cX11_value 88 = .ok (.ireturn, 1) := by decide +kernel
theorem dX11_value_89 : decode cX11_value 89 = .ok (.aload_n 0, 1) := by decide +kernel
theorem dX11_value_90 : decode cX11_value 90 = .ok (.iload_n 2, 1) := by decide +kernel
theorem dX11_value_91 : decode cX11_value 91 = .ok (.iload_n 3, 1) := by decide +kernel
theorem dX11_value_92 : decode cX11_value 92 = .ok (.invokevirtual 191, 3) := by decide +kernel
theorem dX11_value_95 : decode cX11_value 95 = .ok (.ireturn, 1) := by decide +kernel
theorem dX11_value_96 : decode cX11_value 96 = .ok (.aload_n 0, 1) := by decide +kernel
theorem dX11_value_97 : decode cX11_value 97 = .ok (.iload_n 2, 1) := by decide +kernel
theorem dX11_value_98 : decode cX11_value 98 = .ok (.iload_n 3, 1) := by decide +kernel
theorem dX11_value_99 : decode cX11_value 99 = .ok (.invokevirtual 188, 3) := by decide +kernel
theorem dX11_value_102 : decode cX11_value 102 = .ok (.ireturn, 1) := by decide +kernel
theorem dX11_two_0 : decode cX11_two 0 = .ok (.iload_n 0, 1) := by decide +kernel
theorem dX11_two_1 : decode cX11_two 1 = .ok (.tableswitch 79 1 5 #[35, 39, 43, 54, 65], 35) := by decide +kernel
theorem dX11_two_36 : decode cX11_two 36 = .ok (.iload_n 1, 1) := by decide +kernel
theorem dX11_two_37 : decode cX11_two 37 = .ok (.iload_n 2, 1) := by decide +kernel
theorem dX11_two_38 : decode cX11_two 38 = .ok (.iadd, 1) := by decide +kernel
theorem dX11_two_39 : decode cX11_two 39 = .ok (.ireturn, 1) := by decide +kernel
theorem dX11_two_40 : decode cX11_two 40 = .ok (.iload_n 1, 1) := by decide +kernel
theorem dX11_two_41 : decode cX11_two 41 = .ok (.iload_n 2, 1) := by decide +kernel
theorem dX11_two_42 : decode cX11_two 42 = .ok (.isub, 1) := by decide +kernel
theorem dX11_two_43 : decode cX11_two 43 = .ok (.ireturn, 1) := by decide +kernel
theorem dX11_two_44 : decode cX11_two 44 = .ok (.iload_n 1, 1) := by decide +kernel
theorem dX11_two_45 : decode cX11_two 45 = .ok (.iload_n 2, 1) := by decide +kernel
theorem dX11_two_46 : decode cX11_two 46 = .ok (.if_icmp .ge 7, 3) := by decide +kernel
theorem dX11_two_49 : decode cX11_two 49 = .ok (.iconst 1, 1) := by decide +kernel
theorem dX11_two_50 : decode cX11_two 50 = .ok (.goto 4, 3) := by decide +kernel
theorem dX11_two_53 : decode cX11_two 53 = .ok (.iconst 0, 1) := by decide +kernel
theorem dX11_two_54 : decode cX11_two 54 = .ok (.ireturn, 1) := by decide +kernel
theorem dX11_two_55 : decode cX11_two 55 = .ok (.iload_n 1, 1) := by decide +kernel
theorem dX11_two_56 : decode cX11_two 56 = .ok (.iload_n 2, 1) := by decide +kernel
theorem dX11_two_57 : decode cX11_two 57 = .ok (.if_icmp .ne 7, 3) := by decide +kernel
theorem dX11_two_60 : decode cX11_two 60 = .ok (.iconst 1, 1) := by decide +kernel
theorem dX11_two_61 : decode cX11_two 61 = .ok (.goto 4, 3) := by decide +kernel
theorem dX11_two_64 : decode cX11_two 64 = .ok (.iconst 0, 1) := by decide +kernel
theorem dX11_two_65 : decode cX11_two 65 = .ok (.ireturn, 1) := by decide +kernel
theorem dX11_two_66 : decode cX11_two 66 = .ok (.iload_n 1, 1) := by decide +kernel
theorem dX11_two_67 : decode cX11_two 67 = .ok (.ifCond .eq 11, 3) := by decide +kernel
theorem dX11_two_70 : decode cX11_two 70 = .ok (.iload_n 2, 1) := by decide +kernel
theorem dX11_two_71 : decode cX11_two 71 = .ok (.ifCond .eq 7, 3) := by decide +kernel
theorem dX11_two_74 : decode cX11_two 74 = .ok (.iconst 1, 1) := by decide +kernel
theorem dX11_two_75 : decode cX11_two 75 = .ok (.goto 4, 3) := by decide +kernel
theorem dX11_two_78 : decode cX11_two 78 = .ok (.iconst 0, 1) := by decide +kernel
theorem dX11_two_79 : decode cX11_two 79 = .ok (.ireturn, 1) := by decide +kernel
theorem dX11_two_80 : decode cX11_two 80 = .ok (.iload_n 1, 1) := by decide +kernel
theorem dX11_two_81 : decode cX11_two 81 = .ok (.ifCond .ne 7, 3) := by decide +kernel
theorem dX11_two_84 : decode cX11_two 84 = .ok (.iload_n 2, 1) := by decide +kernel
theorem dX11_two_85 : decode cX11_two 85 = .ok (.ifCond .eq 7, 3) := by decide +kernel
theorem dX11_two_88 : decode cX11_two 88 = .ok (.iconst 1, 1) := by decide +kernel
theorem dX11_two_89 : decode cX11_two 89 = .ok (.goto 4, 3) := by decide +kernel
theorem dX11_two_92 : decode cX11_two 92 = .ok (.iconst 0, 1) := by decide +kernel
theorem dX11_two_93 : decode cX11_two 93 = .ok (.ireturn, 1) := by decide +kernel
theorem dX11_told_0 : decode cX11_told 0 = .ok (.aload_n 0, 1) := by decide +kernel
theorem dX11_told_1 : decode cX11_told 1 = .ok (.iconst 0, 1) := by decide +kernel
theorem dX11_told_2 : decode cX11_told 2 = .ok (.putfield 289, 3) := by decide +kernel
theorem dX11_told_5 : decode cX11_told 5 = .ok (.iload_n 1, 1) := by decide +kernel
theorem dX11_told_6 : decode cX11_told 6 = .ok (.istore 5, 2) := by decide +kernel
theorem dX11_told_8 : decode cX11_told 8 = .ok (.iload 5, 2) := by decide +kernel
theorem dX11_told_10 : decode cX11_told 10 = .ok (.iload_n 2, 1) := by decide +kernel
theorem dX11_told_11 : decode cX11_told 11 = .ok (.if_icmp .ge 182, 3) := by decide +kernel
theorem dX11_told_14 : decode cX11_told 14 = .ok (.aload_n 0, 1) := by decide +kernel
theorem dX11_told_15 : decode cX11_told 15 = .ok (.getfield 84, 3) := by decide +kernel
theorem dX11_told_18 : decode cX11_told 18 = .ok (.iload 5, 2) := by decide +kernel
theorem dX11_told_20 : decode cX11_told 20 = .ok (.iaload, 1) := by decide +kernel
theorem dX11_told_21 : decode cX11_told 21 = .ok (.istore 6, 2) := by decide +kernel
theorem dX11_told_23 : decode cX11_told 23 = .ok (.iload 6, 2) := by decide +kernel
theorem dX11_told_25 : decode cX11_told 25 = .ok (.ifCond .ne 35, 3) := by decide +kernel
theorem dX11_told_28 : decode cX11_told 28 = .ok (.iinc 5 1, 3) := by decide +kernel
theorem dX11_told_31 : decode cX11_told 31 = .ok (.aload_n 0, 1) := by decide +kernel
theorem dX11_told_32 : decode cX11_told 32 = .ok (.getfield 87, 3) := by decide +kernel
theorem dX11_told_35 : decode cX11_told 35 = .ok (.aload_n 0, 1) := by decide +kernel
theorem dX11_told_36 : decode cX11_told 36 = .ok (.getfield 289, 3) := by decide +kernel
theorem dX11_told_39 : decode cX11_told 39 = .ok (.aload_n 0, 1) := by decide +kernel
theorem dX11_told_40 : decode cX11_told 40 = .ok (.getfield 84, 3) := by decide +kernel
theorem dX11_told_43 : decode cX11_told 43 = .ok (.iload 5, 2) := by decide +kernel
theorem dX11_told_45 : decode cX11_told 45 = .ok (.iaload, 1) := by decide +kernel
theorem dX11_told_46 : decode cX11_told 46 = .ok (.iastore, 1) := by decide +kernel
theorem dX11_told_47 : decode cX11_told 47 = .ok (.aload_n 0, 1) := by decide +kernel
theorem dX11_told_48 : decode cX11_told 48 = .ok (.dup, 1) := by decide +kernel
theorem dX11_told_49 : decode cX11_told 49 = .ok (.getfield 289, 3) := by decide +kernel
theorem dX11_told_52 : decode cX11_told 52 = .ok (.iconst 1, 1) := by decide +kernel
theorem dX11_told_53 : decode cX11_told 53 = .ok (.iadd, 1) := by decide +kernel
theorem dX11_told_54 : decode cX11_told 54 = .ok (.putfield 289, 3) := by decide +kernel
theorem dX11_told_57 : decode cX11_told 57 = .ok (.goto 130, 3) := by decide +kernel
theorem dX11_told_60 : decode cX11_told 60 = .ok (.iload 6, 2) := by decide +kernel
theorem dX11_told_62 : decode cX11_told 62 = .ok (.bipush 20, 2) := by decide +kernel
theorem dX11_told_64 : decode cX11_told 64 = .ok (.if_icmp .lt 37, 3) := by decide +kernel
theorem dX11_told_67 : decode cX11_told 67 = .ok (.aload_n 0, 1) := by decide +kernel
theorem dX11_told_68 : decode cX11_told 68 = .ok (.getfield 87, 3) := by decide +kernel
theorem dX11_told_71 : decode cX11_told 71 = .ok (.aload_n 0, 1) := by decide +kernel
theorem dX11_told_72 : decode cX11_told 72 = .ok (.getfield 289, 3) := by decide +kernel
theorem dX11_told_75 : decode cX11_told 75 = .ok (.aload_n 0, 1) := by decide +kernel
theorem dX11_told_76 : decode cX11_told 76 = .ok (.iload 6, 2) := by decide +kernel
theorem dX11_told_78 : decode cX11_told 78 = .ok (.bipush 20, 2) := by decide +kernel
theorem dX11_told_80 : decode cX11_told 80 = .ok (.isub, 1) := by decide +kernel
theorem dX11_told_81 : decode cX11_told 81 = .ok (.iload_n 3, 1) := by decide +kernel
theorem dX11_told_82 : decode cX11_told 82 = .ok (.iload 4, 2) := by decide +kernel
theorem dX11_told_84 : decode cX11_told 84 = .ok (.invokevirtual 292, 3) := by decide +kernel
theorem dX11_told_87 : decode cX11_told 87 = .ok (.iastore, 1) := by decide +kernel
theorem dX11_told_88 : decode cX11_told 88 = .ok (.aload_n 0, 1) := by decide +kernel
theorem dX11_told_89 : decode cX11_told 89 = .ok (.dup, 1) := by decide +kernel
theorem dX11_told_90 : decode cX11_told 90 = .ok (.getfield 289, 3) := by decide +kernel
theorem dX11_told_93 : decode cX11_told 93 = .ok (.iconst 1, 1) := by decide +kernel
theorem dX11_told_94 : decode cX11_told 94 = .ok (.iadd, 1) := by decide +kernel
theorem dX11_told_95 : decode cX11_told 95 = .ok (.putfield 289, 3) := by decide +kernel
theorem dX11_told_98 : decode cX11_told 98 = .ok (.goto 89, 3) := by decide +kernel
theorem dX11_told_101 : decode cX11_told 101 = .ok (.iload 6, 2) := by decide +kernel
theorem dX11_told_103 : decode cX11_told 103 = .ok (.bipush 7, 2) := by decide +kernel
theorem dX11_told_105 : decode cX11_told 105 = .ok (.if_icmp .ne 36, 3) := by decide +kernel
theorem dX11_told_108 : decode cX11_told 108 = .ok (.aload_n 0, 1) := by decide +kernel
theorem dX11_told_109 : decode cX11_told 109 = .ok (.getfield 87, 3) := by decide +kernel
theorem dX11_told_112 : decode cX11_told 112 = .ok (.aload_n 0, 1) := by decide +kernel
theorem dX11_told_113 : decode cX11_told 113 = .ok (.getfield 289, 3) := by decide +kernel
theorem dX11_told_116 : decode cX11_told 116 = .ok (.iconst 1, 1) := by decide +kernel
theorem dX11_told_117 : decode cX11_told 117 = .ok (.isub, 1) := by decide +kernel
theorem dX11_told_118 : decode cX11_told 118 = .ok (.aload_n 0, 1) := by decide +kernel
theorem dX11_told_119 : decode cX11_told 119 = .ok (.getfield 87, 3) := by decide +kernel
theorem dX11_told_122 : decode cX11_told 122 = .ok (.aload_n 0, 1) := by decide +kernel
theorem dX11_told_123 : decode cX11_told 123 = .ok (.getfield 289, 3) := by decide +kernel
end
section
theorem dX11_told_126 : decode cX11_told 126 = .ok (.iconst 1, 1) := by decide +kernel
theorem dX11_told_127 : decode cX11_told 127 = .ok (.isub, 1) := by decide +kernel
theorem dX11_told_128 : decode cX11_told 128 = .ok (.iaload, 1) := by decide +kernel
theorem dX11_told_129 : decode cX11_told 129 = .ok (.ifCond .ne 7, 3) := by decide +kernel
theorem dX11_told_132 : decode cX11_told 132 = .ok (.iconst 1, 1) := by decide +kernel
theorem dX11_told_133 : decode cX11_told 133 = .ok (.goto 4, 3) := by decide +kernel
theorem dX11_told_136 : decode cX11_told 136 = .ok (.iconst 0, 1) := by decide +kernel
theorem dX11_told_137 : decode cX11_told 137 = .ok (.iastore, 1) := by decide +kernel
theorem dX11_told_138 : decode cX11_told 138 = .ok (.goto 49, 3) := by decide +kernel
theorem dX11_told_141 : decode cX11_told 141 = .ok (.aload_n 0, 1) := by decide +kernel
theorem dX11_told_142 : decode cX11_told 142 = .ok (.dup, 1) := by decide +kernel
theorem dX11_told_143 : decode cX11_told 143 = .ok (.getfield 289, 3) := by decide +kernel
theorem dX11_told_146 : decode cX11_told 146 = .ok (.iconst 1, 1) := by decide +kernel
theorem dX11_told_147 : decode cX11_told 147 = .ok (.isub, 1) := by decide +kernel
theorem dX11_told_148 : decode cX11_told 148 = .ok (.putfield 289, 3) := by decide +kernel
theorem dX11_told_151 : decode cX11_told 151 = .ok (.aload_n 0, 1) := by decide +kernel
theorem dX11_told_152 : decode cX11_told 152 = .ok (.getfield 87, 3) := by decide +kernel
theorem dX11_told_155 : decode cX11_told 155 = .ok (.aload_n 0, 1) := by decide +kernel
theorem dX11_told_156 : decode cX11_told 156 = .ok (.getfield 289, 3) := by decide +kernel
theorem dX11_told_159 : decode cX11_told 159 = .ok (.iconst 1, 1) := by decide +kernel
theorem dX11_told_160 : decode cX11_told 160 = .ok (.isub, 1) := by decide +kernel
theorem dX11_told_161 : decode cX11_told 161 = .ok (.iload 6, 2) := by decide +kernel
theorem dX11_told_163 : decode cX11_told 163 = .ok (.aload_n 0, 1) := by decide +kernel
theorem dX11_told_164 : decode cX11_told 164 = .ok (.getfield 87, 3) := by decide +kernel
theorem dX11_told_167 : decode cX11_told 167 = .ok (.aload_n 0, 1) := by decide +kernel
theorem dX11_told_168 : decode cX11_told 168 = .ok (.getfield 289, 3) := by decide +kernel
theorem dX11_told_171 : decode cX11_told 171 = .ok (.iconst 1, 1) := by decide +kernel
theorem dX11_told_172 : decode cX11_told 172 = .ok (.isub, 1) := by decide +kernel
theorem dX11_told_173 : decode cX11_told 173 = .ok (.iaload, 1) := by decide +kernel
theorem dX11_told_174 : decode cX11_told 174 = .ok (.aload_n 0, 1) := by decide +kernel
theorem dX11_told_175 : decode cX11_told 175 = .ok (.getfield 87, 3) := by decide +kernel
theorem dX11_told_178 : decode cX11_told 178 = .ok (.aload_n 0, 1) := by decide +kernel
theorem dX11_told_179 : decode cX11_told 179 = .ok (.getfield 289, 3) := by decide +kernel
theorem dX11_told_182 : decode cX11_told 182 = .ok (.iaload, 1) := by decide +kernel
theorem dX11_told_183 : decode cX11_told 183 = .ok (.invokestatic 296, 3) := by decide +kernel
theorem dX11_told_186 : decode cX11_told 186 = .ok (.iastore, 1) := by decide +kernel
theorem dX11_told_187 : decode cX11_told 187 = .ok (.iinc 5 1, 3) := by decide +kernel
theorem dX11_told_190 : decode cX11_told 190 = .ok (.goto (-182), 3) := by decide +kernel
theorem dX11_told_193 : decode cX11_told 193 = .ok (.aload_n 0, 1) := by decide +kernel
theorem dX11_told_194 : decode cX11_told 194 = .ok (.getfield 87, 3) := by decide +kernel
theorem dX11_told_197 : decode cX11_told 197 = .ok (.iconst 0, 1) := by decide +kernel
theorem dX11_told_198 : decode cX11_told 198 = .ok (.iaload, 1) := by decide +kernel
theorem dX11_told_199 : decode cX11_told 199 = .ok (.ireturn, 1) := by decide +kernel
theorem dX11_ruled_0 : decode cX11_ruled 0 = .ok (.iconst (-1), 1) := by decide +kernel
theorem dX11_ruled_1 : decode cX11_ruled 1 = .ok (.istore 4, 2) := by decide +kernel
theorem dX11_ruled_3 : decode cX11_ruled 3 = .ok (.iconst 0, 1) := by decide +kernel
theorem dX11_ruled_4 : decode cX11_ruled 4 = .ok (.istore 5, 2) := by decide +kernel
theorem dX11_ruled_6 : decode cX11_ruled 6 = .ok (.iload 5, 2) := by decide +kernel
theorem dX11_ruled_8 : decode cX11_ruled 8 = .ok (.aload_n 0, 1) := by decide +kernel
theorem dX11_ruled_9 : decode cX11_ruled 9 = .ok (.getfield 240, 3) := by decide +kernel
theorem dX11_ruled_12 : decode cX11_ruled 12 = .ok (.if_icmp .ge 47, 3) := by decide +kernel
theorem dX11_ruled_15 : decode cX11_ruled 15 = .ok (.aload_n 0, 1) := by decide +kernel
theorem dX11_ruled_16 : decode cX11_ruled 16 = .ok (.getfield 75, 3) := by decide +kernel
theorem dX11_ruled_19 : decode cX11_ruled 19 = .ok (.iload 5, 2) := by decide +kernel
theorem dX11_ruled_21 : decode cX11_ruled 21 = .ok (.iaload, 1) := by decide +kernel
theorem dX11_ruled_22 : decode cX11_ruled 22 = .ok (.iload_n 3, 1) := by decide +kernel
theorem dX11_ruled_23 : decode cX11_ruled 23 = .ok (.if_icmp .gt 30, 3) := by decide +kernel
theorem dX11_ruled_26 : decode cX11_ruled 26 = .ok (.iload 4, 2) := by decide +kernel
theorem dX11_ruled_28 : decode cX11_ruled 28 = .ok (.iconst (-1), 1) := by decide +kernel
theorem dX11_ruled_29 : decode cX11_ruled 29 = .ok (.if_icmp .eq 20, 3) := by decide +kernel
theorem dX11_ruled_32 : decode cX11_ruled 32 = .ok (.aload_n 0, 1) := by decide +kernel
theorem dX11_ruled_33 : decode cX11_ruled 33 = .ok (.getfield 75, 3) := by decide +kernel
theorem dX11_ruled_36 : decode cX11_ruled 36 = .ok (.iload 5, 2) := by decide +kernel
theorem dX11_ruled_38 : decode cX11_ruled 38 = .ok (.iaload, 1) := by decide +kernel
theorem dX11_ruled_39 : decode cX11_ruled 39 = .ok (.aload_n 0, 1) := by decide +kernel
theorem dX11_ruled_40 : decode cX11_ruled 40 = .ok (.getfield 75, 3) := by decide +kernel
theorem dX11_ruled_43 : decode cX11_ruled 43 = .ok (.iload 4, 2) := by decide +kernel
theorem dX11_ruled_45 : decode cX11_ruled 45 = .ok (.iaload, 1) := by decide +kernel
theorem dX11_ruled_46 : decode cX11_ruled 46 = .ok (.if_icmp .lt 7, 3) := by decide +kernel
theorem dX11_ruled_49 : decode cX11_ruled 49 = .ok (.iload 5, 2) := by decide +kernel
theorem dX11_ruled_51 : decode cX11_ruled 51 = .ok (.istore 4, 2) := by decide +kernel
theorem dX11_ruled_53 : decode cX11_ruled 53 = .ok (.iinc 5 1, 3) := by decide +kernel
theorem dX11_ruled_56 : decode cX11_ruled 56 = .ok (.goto (-50), 3) := by decide +kernel
theorem dX11_ruled_59 : decode cX11_ruled 59 = .ok (.iconst 0, 1) := by decide +kernel
theorem dX11_ruled_60 : decode cX11_ruled 60 = .ok (.istore 5, 2) := by decide +kernel
theorem dX11_ruled_62 : decode cX11_ruled 62 = .ok (.iconst 0, 1) := by decide +kernel
theorem dX11_ruled_63 : decode cX11_ruled 63 = .ok (.istore 6, 2) := by decide +kernel
theorem dX11_ruled_65 : decode cX11_ruled 65 = .ok (.iload 4, 2) := by decide +kernel
theorem dX11_ruled_67 : decode cX11_ruled 67 = .ok (.iconst (-1), 1) := by decide +kernel
theorem dX11_ruled_68 : decode cX11_ruled 68 = .ok (.if_icmp .eq 115, 3) := by decide +kernel
theorem dX11_ruled_71 : decode cX11_ruled 71 = .ok (.iload 6, 2) := by decide +kernel
theorem dX11_ruled_73 : decode cX11_ruled 73 = .ok (.aload_n 0, 1) := by decide +kernel
theorem dX11_ruled_74 : decode cX11_ruled 74 = .ok (.getfield 78, 3) := by decide +kernel
theorem dX11_ruled_77 : decode cX11_ruled 77 = .ok (.iload 4, 2) := by decide +kernel
theorem dX11_ruled_79 : decode cX11_ruled 79 = .ok (.iaload, 1) := by decide +kernel
theorem dX11_ruled_80 : decode cX11_ruled 80 = .ok (.if_icmp .ge 103, 3) := by decide +kernel
theorem dX11_ruled_83 : decode cX11_ruled 83 = .ok (.aload_n 0, 1) := by decide +kernel
theorem dX11_ruled_84 : decode cX11_ruled 84 = .ok (.getfield 90, 3) := by decide +kernel
theorem dX11_ruled_87 : decode cX11_ruled 87 = .ok (.bipush 12, 2) := by decide +kernel
theorem dX11_ruled_89 : decode cX11_ruled 89 = .ok (.iload 4, 2) := by decide +kernel
theorem dX11_ruled_91 : decode cX11_ruled 91 = .ok (.imul, 1) := by decide +kernel
theorem dX11_ruled_92 : decode cX11_ruled 92 = .ok (.iload 6, 2) := by decide +kernel
theorem dX11_ruled_94 : decode cX11_ruled 94 = .ok (.iadd, 1) := by decide +kernel
theorem dX11_ruled_95 : decode cX11_ruled 95 = .ok (.iaload, 1) := by decide +kernel
theorem dX11_ruled_96 : decode cX11_ruled 96 = .ok (.iload_n 1, 1) := by decide +kernel
theorem dX11_ruled_97 : decode cX11_ruled 97 = .ok (.if_icmp .eq 6, 3) := by decide +kernel
theorem dX11_ruled_100 : decode cX11_ruled 100 = .ok (.goto 77, 3) := by decide +kernel
theorem dX11_ruled_103 : decode cX11_ruled 103 = .ok (.bipush 13, 2) := by decide +kernel
theorem dX11_ruled_105 : decode cX11_ruled 105 = .ok (.iload 4, 2) := by decide +kernel
theorem dX11_ruled_107 : decode cX11_ruled 107 = .ok (.imul, 1) := by decide +kernel
theorem dX11_ruled_108 : decode cX11_ruled 108 = .ok (.iload 6, 2) := by decide +kernel
theorem dX11_ruled_110 : decode cX11_ruled 110 = .ok (.iadd, 1) := by decide +kernel
theorem dX11_ruled_111 : decode cX11_ruled 111 = .ok (.istore 7, 2) := by decide +kernel
theorem dX11_ruled_113 : decode cX11_ruled 113 = .ok (.aload_n 0, 1) := by decide +kernel
theorem dX11_ruled_114 : decode cX11_ruled 114 = .ok (.sipush 700, 3) := by decide +kernel
theorem dX11_ruled_117 : decode cX11_ruled 117 = .ok (.iload 4, 2) := by decide +kernel
theorem dX11_ruled_119 : decode cX11_ruled 119 = .ok (.imul, 1) := by decide +kernel
theorem dX11_ruled_120 : decode cX11_ruled 120 = .ok (.aload_n 0, 1) := by decide +kernel
theorem dX11_ruled_121 : decode cX11_ruled 121 = .ok (.getfield 81, 3) := by decide +kernel
theorem dX11_ruled_124 : decode cX11_ruled 124 = .ok (.iload 7, 2) := by decide +kernel
theorem dX11_ruled_126 : decode cX11_ruled 126 = .ok (.iaload, 1) := by decide +kernel
theorem dX11_ruled_127 : decode cX11_ruled 127 = .ok (.iadd, 1) := by decide +kernel
theorem dX11_ruled_128 : decode cX11_ruled 128 = .ok (.sipush 700, 3) := by decide +kernel
theorem dX11_ruled_131 : decode cX11_ruled 131 = .ok (.iload 4, 2) := by decide +kernel
theorem dX11_ruled_133 : decode cX11_ruled 133 = .ok (.imul, 1) := by decide +kernel
theorem dX11_ruled_134 : decode cX11_ruled 134 = .ok (.aload_n 0, 1) := by decide +kernel
theorem dX11_ruled_135 : decode cX11_ruled 135 = .ok (.getfield 81, 3) := by decide +kernel
theorem dX11_ruled_138 : decode cX11_ruled 138 = .ok (.iload 7, 2) := by decide +kernel
theorem dX11_ruled_140 : decode cX11_ruled 140 = .ok (.iconst 1, 1) := by decide +kernel
theorem dX11_ruled_141 : decode cX11_ruled 141 = .ok (.iadd, 1) := by decide +kernel
theorem dX11_ruled_142 : decode cX11_ruled 142 = .ok (.iaload, 1) := by decide +kernel
theorem dX11_ruled_143 : decode cX11_ruled 143 = .ok (.iadd, 1) := by decide +kernel
theorem dX11_ruled_144 : decode cX11_ruled 144 = .ok (.iload_n 2, 1) := by decide +kernel
theorem dX11_ruled_145 : decode cX11_ruled 145 = .ok (.iload_n 3, 1) := by decide +kernel
theorem dX11_ruled_146 : decode cX11_ruled 146 = .ok (.invokevirtual 299, 3) := by decide +kernel
theorem dX11_ruled_149 : decode cX11_ruled 149 = .ok (.istore 8, 2) := by decide +kernel
theorem dX11_ruled_151 : decode cX11_ruled 151 = .ok (.iload_n 1, 1) := by decide +kernel
theorem dX11_ruled_152 : decode cX11_ruled 152 = .ok (.iconst 2, 1) := by decide +kernel
theorem dX11_ruled_153 : decode cX11_ruled 153 = .ok (.if_icmp .ne 11, 3) := by decide +kernel
theorem dX11_ruled_156 : decode cX11_ruled 156 = .ok (.iload 5, 2) := by decide +kernel
theorem dX11_ruled_158 : decode cX11_ruled 158 = .ok (.iload 8, 2) := by decide +kernel
theorem dX11_ruled_160 : decode cX11_ruled 160 = .ok (.iadd, 1) := by decide +kernel
theorem dX11_ruled_161 : decode cX11_ruled 161 = .ok (.goto 14, 3) := by decide +kernel
theorem dX11_ruled_164 : decode cX11_ruled 164 = .ok (.iload 8, 2) := by decide +kernel
theorem dX11_ruled_166 : decode cX11_ruled 166 = .ok (.ifCond .eq 7, 3) := by decide +kernel
theorem dX11_ruled_169 : decode cX11_ruled 169 = .ok (.iconst 1, 1) := by decide +kernel
theorem dX11_ruled_170 : decode cX11_ruled 170 = .ok (.goto 5, 3) := by decide +kernel
theorem dX11_ruled_173 : decode cX11_ruled 173 = .ok (.iload 5, 2) := by decide +kernel
theorem dX11_ruled_175 : decode cX11_ruled 175 = .ok (.istore 5, 2) := by decide +kernel
theorem dX11_ruled_177 : decode cX11_ruled 177 = .ok (.iinc 6 1, 3) := by decide +kernel
theorem dX11_ruled_180 : decode cX11_ruled 180 = .ok (.goto (-115), 3) := by decide +kernel
theorem dX11_ruled_183 : decode cX11_ruled 183 = .ok (.iload 5, 2) := by decide +kernel
theorem dX11_ruled_185 : decode cX11_ruled 185 = .ok (.ireturn, 1) := by decide +kernel
theorem dX11_claim_0 : decode cX11_claim 0 = .ok (.aload_n 0, 1) := by decide +kernel
theorem dX11_claim_1 : decode cX11_claim 1 = .ok (.iconst 0, 1) := by decide +kernel
theorem dX11_claim_2 : decode cX11_claim 2 = .ok (.putfield 110, 3) := by decide +kernel
theorem dX11_claim_5 : decode cX11_claim 5 = .ok (.aload_n 0, 1) := by decide +kernel
theorem dX11_claim_6 : decode cX11_claim 6 = .ok (.iload_n 1, 1) := by decide +kernel
theorem dX11_claim_7 : decode cX11_claim 7 = .ok (.invokevirtual 124, 3) := by decide +kernel
theorem dX11_claim_10 : decode cX11_claim 10 = .ok (.ifCond .ne 8, 3) := by decide +kernel
theorem dX11_claim_13 : decode cX11_claim 13 = .ok (.aload_n 0, 1) := by decide +kernel
theorem dX11_claim_14 : decode cX11_claim 14 = .ok (.invokevirtual 127, 3) := by decide +kernel
theorem dX11_claim_17 : decode cX11_claim 17 = .ok (.ireturn, 1) := by decide +kernel
theorem dX11_claim_18 : decode cX11_claim 18 = .ok (.aload_n 0, 1) := by decide +kernel
theorem dX11_claim_19 : decode cX11_claim 19 = .ok (.iload_n 1, 1) := by decide +kernel
theorem dX11_claim_20 : decode cX11_claim 20 = .ok (.iload_n 3, 1) := by decide +kernel
theorem dX11_claim_21 : decode cX11_claim 21 = .ok (.invokevirtual 169, 3) := by decide +kernel
theorem dX11_claim_24 : decode cX11_claim 24 = .ok (.istore 4, 2) := by decide +kernel
theorem dX11_claim_26 : decode cX11_claim 26 = .ok (.iload 4, 2) := by decide +kernel
theorem dX11_claim_28 : decode cX11_claim 28 = .ok (.iconst (-1), 1) := by decide +kernel
theorem dX11_claim_29 : decode cX11_claim 29 = .ok (.if_icmp .eq 9, 3) := by decide +kernel
theorem dX11_claim_32 : decode cX11_claim 32 = .ok (.iload 4, 2) := by decide +kernel
theorem dX11_claim_34 : decode cX11_claim 34 = .ok (.iload_n 2, 1) := by decide +kernel
theorem dX11_claim_35 : decode cX11_claim 35 = .ok (.if_icmp .eq 5, 3) := by decide +kernel
theorem dX11_claim_38 : decode cX11_claim 38 = .ok (.iconst 1, 1) := by decide +kernel
theorem dX11_claim_39 : decode cX11_claim 39 = .ok (.ireturn, 1) := by decide +kernel
theorem dX11_claim_40 : decode cX11_claim 40 = .ok (.aload_n 0, 1) := by decide +kernel
theorem dX11_claim_41 : decode cX11_claim 41 = .ok (.iload_n 1, 1) := by decide +kernel
theorem dX11_claim_42 : decode cX11_claim 42 = .ok (.iload_n 3, 1) := by decide +kernel
theorem dX11_claim_43 : decode cX11_claim 43 = .ok (.invokevirtual 131, 3) := by decide +kernel
theorem dX11_claim_46 : decode cX11_claim 46 = .ok (.ifCond .ne 5, 3) := by decide +kernel
theorem dX11_claim_49 : decode cX11_claim 49 = .ok (.iconst 2, 1) := by decide +kernel
theorem dX11_claim_50 : decode cX11_claim 50 = .ok (.ireturn, 1) := by decide +kernel
theorem dX11_claim_51 : decode cX11_claim 51 = .ok (.aload_n 0, 1) := by decide +kernel
theorem dX11_claim_52 : decode cX11_claim 52 = .ok (.iconst 0, 1) := by decide +kernel
theorem dX11_claim_53 : decode cX11_claim 53 = .ok (.iload_n 1, 1) := by decide +kernel
theorem dX11_claim_54 : decode cX11_claim 54 = .ok (.iload_n 3, 1) := by decide +kernel
theorem dX11_claim_55 : decode cX11_claim 55 = .ok (.invokevirtual 303, 3) := by decide +kernel
theorem dX11_claim_58 : decode cX11_claim 58 = .ok (.ifCond .eq 5, 3) := by decide +kernel
theorem dX11_claim_61 : decode cX11_claim 61 = .ok (.iconst 3, 1) := by decide +kernel
theorem dX11_claim_62 : decode cX11_claim 62 = .ok (.ireturn, 1) := by decide +kernel
theorem dX11_claim_63 : decode cX11_claim 63 = .ok (.aload_n 0, 1) := by decide +kernel
theorem dX11_claim_64 : decode cX11_claim 64 = .ok (.iload_n 1, 1) := by decide +kernel
theorem dX11_claim_65 : decode cX11_claim 65 = .ok (.iload_n 3, 1) := by decide +kernel
theorem dX11_claim_66 : decode cX11_claim 66 = .ok (.invokevirtual 178, 3) := by decide +kernel
theorem dX11_claim_69 : decode cX11_claim 69 = .ok (.ifCond .le 17, 3) := by decide +kernel
theorem dX11_claim_72 : decode cX11_claim 72 = .ok (.aload_n 0, 1) := by decide +kernel
theorem dX11_claim_73 : decode cX11_claim 73 = .ok (.iconst 1, 1) := by decide +kernel
theorem dX11_claim_74 : decode cX11_claim 74 = .ok (.iload_n 1, 1) := by decide +kernel
theorem dX11_claim_75 : decode cX11_claim 75 = .ok (.iload_n 3, 1) := by decide +kernel
theorem dX11_claim_76 : decode cX11_claim 76 = .ok (.invokevirtual 303, 3) := by decide +kernel
theorem dX11_claim_79 : decode cX11_claim 79 = .ok (.ifCond .eq 7, 3) := by decide +kernel
theorem dX11_claim_82 : decode cX11_claim 82 = .ok (.iconst 4, 1) := by decide +kernel
theorem dX11_claim_83 : decode cX11_claim 83 = .ok (.goto 4, 3) := by decide +kernel
theorem dX11_claim_86 : decode cX11_claim 86 = .ok (.iconst 0, 1) := by decide +kernel
theorem dX11_claim_87 : decode cX11_claim 87 = .ok (.ireturn, 1) := by decide +kernel
theorem dX11_fee_0 : decode cX11_fee 0 = .ok (.aload_n 0, 1) := by decide +kernel
theorem dX11_fee_1 : decode cX11_fee 1 = .ok (.iconst 0, 1) := by decide +kernel
theorem dX11_fee_2 : decode cX11_fee 2 = .ok (.putfield 110, 3) := by decide +kernel
theorem dX11_fee_5 : decode cX11_fee 5 = .ok (.aload_n 0, 1) := by decide +kernel
theorem dX11_fee_6 : decode cX11_fee 6 = .ok (.iload_n 1, 1) := by decide +kernel
theorem dX11_fee_7 : decode cX11_fee 7 = .ok (.invokevirtual 124, 3) := by decide +kernel
theorem dX11_fee_10 : decode cX11_fee 10 = .ok (.ifCond .ne 8, 3) := by decide +kernel
theorem dX11_fee_13 : decode cX11_fee 13 = .ok (.aload_n 0, 1) := by decide +kernel
theorem dX11_fee_14 : decode cX11_fee 14 = .ok (.invokevirtual 127, 3) := by decide +kernel
theorem dX11_fee_17 : decode cX11_fee 17 = .ok (.ireturn, 1) := by decide +kernel
theorem dX11_fee_18 : decode cX11_fee 18 = .ok (.aload_n 0, 1) := by decide +kernel
theorem dX11_fee_19 : decode cX11_fee 19 = .ok (.iload_n 1, 1) := by decide +kernel
theorem dX11_fee_20 : decode cX11_fee 20 = .ok (.iload_n 2, 1) := by decide +kernel
theorem dX11_fee_21 : decode cX11_fee 21 = .ok (.invokevirtual 145, 3) := by decide +kernel
theorem dX11_fee_24 : decode cX11_fee 24 = .ok (.iconst (-1), 1) := by decide +kernel
theorem dX11_fee_25 : decode cX11_fee 25 = .ok (.if_icmp .ne 7, 3) := by decide +kernel
theorem dX11_fee_28 : decode cX11_fee 28 = .ok (.iconst 0, 1) := by decide +kernel
theorem dX11_fee_29 : decode cX11_fee 29 = .ok (.goto 10, 3) := by decide +kernel
theorem dX11_fee_32 : decode cX11_fee 32 = .ok (.aload_n 0, 1) := by decide +kernel
theorem dX11_fee_33 : decode cX11_fee 33 = .ok (.iconst 2, 1) := by decide +kernel
theorem dX11_fee_34 : decode cX11_fee 34 = .ok (.iload_n 1, 1) := by decide +kernel
theorem dX11_fee_35 : decode cX11_fee 35 = .ok (.iload_n 2, 1) := by decide +kernel
theorem dX11_fee_36 : decode cX11_fee 36 = .ok (.invokevirtual 303, 3) := by decide +kernel
theorem dX11_fee_39 : decode cX11_fee 39 = .ok (.ireturn, 1) := by decide +kernel
theorem dX11_copy_0 : decode cX11_copy 0 = .ok (.aload_n 0, 1) := by decide +kernel
theorem dX11_copy_1 : decode cX11_copy 1 = .ok (.iconst 0, 1) := by decide +kernel
theorem dX11_copy_2 : decode cX11_copy 2 = .ok (.putfield 110, 3) := by decide +kernel
theorem dX11_copy_5 : decode cX11_copy 5 = .ok (.aload_n 0, 1) := by decide +kernel
theorem dX11_copy_6 : decode cX11_copy 6 = .ok (.getfield 306, 3) := by decide +kernel
theorem dX11_copy_9 : decode cX11_copy 9 = .ok (.bipush 40, 2) := by decide +kernel
theorem dX11_copy_11 : decode cX11_copy 11 = .ok (.if_icmp .eq 10, 3) := by decide +kernel
theorem dX11_copy_14 : decode cX11_copy 14 = .ok (.iload_n 1, 1) := by decide +kernel
theorem dX11_copy_15 : decode cX11_copy 15 = .ok (.invokestatic 116, 3) := by decide +kernel
theorem dX11_copy_18 : decode cX11_copy 18 = .ok (.ifCond .ne 5, 3) := by decide +kernel
theorem dX11_copy_21 : decode cX11_copy 21 = .ok (.iconst (-1), 1) := by decide +kernel
theorem dX11_copy_22 : decode cX11_copy 22 = .ok (.ireturn, 1) := by decide +kernel
theorem dX11_copy_23 : decode cX11_copy 23 = .ok (.aload_n 0, 1) := by decide +kernel
theorem dX11_copy_24 : decode cX11_copy 24 = .ok (.getfield 66, 3) := by decide +kernel
theorem dX11_copy_27 : decode cX11_copy 27 = .ok (.aload_n 0, 1) := by decide +kernel
theorem dX11_copy_28 : decode cX11_copy 28 = .ok (.getfield 306, 3) := by decide +kernel
theorem dX11_copy_31 : decode cX11_copy 31 = .ok (.iload_n 1, 1) := by decide +kernel
theorem dX11_copy_32 : decode cX11_copy 32 = .ok (.iastore, 1) := by decide +kernel
theorem dX11_copy_33 : decode cX11_copy 33 = .ok (.aload_n 0, 1) := by decide +kernel
theorem dX11_copy_34 : decode cX11_copy 34 = .ok (.getfield 69, 3) := by decide +kernel
theorem dX11_copy_37 : decode cX11_copy 37 = .ok (.aload_n 0, 1) := by decide +kernel
theorem dX11_copy_38 : decode cX11_copy 38 = .ok (.getfield 306, 3) := by decide +kernel
theorem dX11_copy_41 : decode cX11_copy 41 = .ok (.iload_n 2, 1) := by decide +kernel
theorem dX11_copy_42 : decode cX11_copy 42 = .ok (.iastore, 1) := by decide +kernel
theorem dX11_copy_43 : decode cX11_copy 43 = .ok (.aload_n 0, 1) := by decide +kernel
theorem dX11_copy_44 : decode cX11_copy 44 = .ok (.dup, 1) := by decide +kernel
theorem dX11_copy_45 : decode cX11_copy 45 = .ok (.getfield 306, 3) := by decide +kernel
theorem dX11_copy_48 : decode cX11_copy 48 = .ok (.iconst 1, 1) := by decide +kernel
theorem dX11_copy_49 : decode cX11_copy 49 = .ok (.iadd, 1) := by decide +kernel
theorem dX11_copy_50 : decode cX11_copy 50 = .ok (.putfield 306, 3) := by decide +kernel
theorem dX11_copy_53 : decode cX11_copy 53 = .ok (.aload_n 0, 1) := by decide +kernel
theorem dX11_copy_54 : decode cX11_copy 54 = .ok (.getfield 306, 3) := by decide +kernel
theorem dX11_copy_57 : decode cX11_copy 57 = .ok (.iconst 1, 1) := by decide +kernel
theorem dX11_copy_58 : decode cX11_copy 58 = .ok (.isub, 1) := by decide +kernel
theorem dX11_copy_59 : decode cX11_copy 59 = .ok (.ireturn, 1) := by decide +kernel
theorem dX11_unlike_0 : decode cX11_unlike 0 = .ok (.iconst 0, 1) := by decide +kernel
theorem dX11_unlike_1 : decode cX11_unlike 1 = .ok (.istore_n 3, 1) := by decide +kernel
theorem dX11_unlike_2 : decode cX11_unlike 2 = .ok (.iconst 0, 1) := by decide +kernel
theorem dX11_unlike_3 : decode cX11_unlike 3 = .ok (.istore 4, 2) := by decide +kernel
theorem dX11_unlike_5 : decode cX11_unlike 5 = .ok (.iload 4, 2) := by decide +kernel
theorem dX11_unlike_7 : decode cX11_unlike 7 = .ok (.bipush 8, 2) := by decide +kernel
theorem dX11_unlike_9 : decode cX11_unlike 9 = .ok (.if_icmp .ge 48, 3) := by decide +kernel
theorem dX11_unlike_12 : decode cX11_unlike 12 = .ok (.iload_n 3, 1) := by decide +kernel
theorem dX11_unlike_13 : decode cX11_unlike 13 = .ok (.aload_n 0, 1) := by decide +kernel
theorem dX11_unlike_14 : decode cX11_unlike 14 = .ok (.getfield 69, 3) := by decide +kernel
theorem dX11_unlike_17 : decode cX11_unlike 17 = .ok (.iload_n 1, 1) := by decide +kernel
theorem dX11_unlike_18 : decode cX11_unlike 18 = .ok (.iaload, 1) := by decide +kernel
theorem dX11_unlike_19 : decode cX11_unlike 19 = .ok (.iconst 4, 1) := by decide +kernel
theorem dX11_unlike_20 : decode cX11_unlike 20 = .ok (.iload 4, 2) := by decide +kernel
theorem dX11_unlike_22 : decode cX11_unlike 22 = .ok (.imul, 1) := by decide +kernel
theorem dX11_unlike_23 : decode cX11_unlike 23 = .ok (.ishr, 1) := by decide +kernel
theorem dX11_unlike_24 : decode cX11_unlike 24 = .ok (.bipush 15, 2) := by decide +kernel
theorem dX11_unlike_26 : decode cX11_unlike 26 = .ok (.iand, 1) := by decide +kernel
theorem dX11_unlike_27 : decode cX11_unlike 27 = .ok (.aload_n 0, 1) := by decide +kernel
theorem dX11_unlike_28 : decode cX11_unlike 28 = .ok (.getfield 69, 3) := by decide +kernel
theorem dX11_unlike_31 : decode cX11_unlike 31 = .ok (.iload_n 2, 1) := by decide +kernel
theorem dX11_unlike_32 : decode cX11_unlike 32 = .ok (.iaload, 1) := by decide +kernel
theorem dX11_unlike_33 : decode cX11_unlike 33 = .ok (.iconst 4, 1) := by decide +kernel
theorem dX11_unlike_34 : decode cX11_unlike 34 = .ok (.iload 4, 2) := by decide +kernel
theorem dX11_unlike_36 : decode cX11_unlike 36 = .ok (.imul, 1) := by decide +kernel
theorem dX11_unlike_37 : decode cX11_unlike 37 = .ok (.ishr, 1) := by decide +kernel
theorem dX11_unlike_38 : decode cX11_unlike 38 = .ok (.bipush 15, 2) := by decide +kernel
theorem dX11_unlike_40 : decode cX11_unlike 40 = .ok (.iand, 1) := by decide +kernel
theorem dX11_unlike_41 : decode cX11_unlike 41 = .ok (.if_icmp .ne 7, 3) := by decide +kernel
theorem dX11_unlike_44 : decode cX11_unlike 44 = .ok (.iconst 0, 1) := by decide +kernel
theorem dX11_unlike_45 : decode cX11_unlike 45 = .ok (.goto 4, 3) := by decide +kernel
theorem dX11_unlike_48 : decode cX11_unlike 48 = .ok (.iconst 1, 1) := by decide +kernel
theorem dX11_unlike_49 : decode cX11_unlike 49 = .ok (.iadd, 1) := by decide +kernel
theorem dX11_unlike_50 : decode cX11_unlike 50 = .ok (.istore_n 3, 1) := by decide +kernel
theorem dX11_unlike_51 : decode cX11_unlike 51 = .ok (.iinc 4 1, 3) := by decide +kernel
theorem dX11_unlike_54 : decode cX11_unlike 54 = .ok (.goto (-49), 3) := by decide +kernel
theorem dX11_unlike_57 : decode cX11_unlike 57 = .ok (.iload_n 3, 1) := by decide +kernel
theorem dX11_unlike_58 : decode cX11_unlike 58 = .ok (.ireturn, 1) := by decide +kernel
theorem dX11_takenFrom_0 : decode cX11_takenFrom 0 = .ok (.iconst (-1), 1) := by decide +kernel
theorem dX11_takenFrom_1 : decode cX11_takenFrom 1 = .ok (.istore_n 2, 1) := by decide +kernel
theorem dX11_takenFrom_2 : decode cX11_takenFrom 2 = .ok (.iconst 0, 1) := by decide +kernel
theorem dX11_takenFrom_3 : decode cX11_takenFrom 3 = .ok (.istore_n 3, 1) := by decide +kernel
theorem dX11_takenFrom_4 : decode cX11_takenFrom 4 = .ok (.iload_n 3, 1) := by decide +kernel
theorem dX11_takenFrom_5 : decode cX11_takenFrom 5 = .ok (.aload_n 0, 1) := by decide +kernel
theorem dX11_takenFrom_6 : decode cX11_takenFrom 6 = .ok (.getfield 306, 3) := by decide +kernel
theorem dX11_takenFrom_9 : decode cX11_takenFrom 9 = .ok (.if_icmp .ge 83, 3) := by decide +kernel
theorem dX11_takenFrom_12 : decode cX11_takenFrom 12 = .ok (.aload_n 0, 1) := by decide +kernel
theorem dX11_takenFrom_13 : decode cX11_takenFrom 13 = .ok (.getfield 66, 3) := by decide +kernel
theorem dX11_takenFrom_16 : decode cX11_takenFrom 16 = .ok (.iload_n 3, 1) := by decide +kernel
theorem dX11_takenFrom_17 : decode cX11_takenFrom 17 = .ok (.iaload, 1) := by decide +kernel
theorem dX11_takenFrom_18 : decode cX11_takenFrom 18 = .ok (.aload_n 0, 1) := by decide +kernel
theorem dX11_takenFrom_19 : decode cX11_takenFrom 19 = .ok (.getfield 66, 3) := by decide +kernel
theorem dX11_takenFrom_22 : decode cX11_takenFrom 22 = .ok (.iload_n 1, 1) := by decide +kernel
theorem dX11_takenFrom_23 : decode cX11_takenFrom 23 = .ok (.iaload, 1) := by decide +kernel
theorem dX11_takenFrom_24 : decode cX11_takenFrom 24 = .ok (.if_icmp .lt 6, 3) := by decide +kernel
theorem dX11_takenFrom_27 : decode cX11_takenFrom 27 = .ok (.goto 59, 3) := by decide +kernel
theorem dX11_takenFrom_30 : decode cX11_takenFrom 30 = .ok (.iload_n 2, 1) := by decide +kernel
theorem dX11_takenFrom_31 : decode cX11_takenFrom 31 = .ok (.iconst (-1), 1) := by decide +kernel
theorem dX11_takenFrom_32 : decode cX11_takenFrom 32 = .ok (.if_icmp .ne 7, 3) := by decide +kernel
theorem dX11_takenFrom_35 : decode cX11_takenFrom 35 = .ok (.iconst 0, 1) := by decide +kernel
theorem dX11_takenFrom_36 : decode cX11_takenFrom 36 = .ok (.goto 16, 3) := by decide +kernel
theorem dX11_takenFrom_39 : decode cX11_takenFrom 39 = .ok (.aload_n 0, 1) := by decide +kernel
theorem dX11_takenFrom_40 : decode cX11_takenFrom 40 = .ok (.iload_n 1, 1) := by decide +kernel
theorem dX11_takenFrom_41 : decode cX11_takenFrom 41 = .ok (.iload_n 3, 1) := by decide +kernel
theorem dX11_takenFrom_42 : decode cX11_takenFrom 42 = .ok (.invokevirtual 309, 3) := by decide +kernel
theorem dX11_takenFrom_45 : decode cX11_takenFrom 45 = .ok (.aload_n 0, 1) := by decide +kernel
theorem dX11_takenFrom_46 : decode cX11_takenFrom 46 = .ok (.iload_n 1, 1) := by decide +kernel
theorem dX11_takenFrom_47 : decode cX11_takenFrom 47 = .ok (.iload_n 2, 1) := by decide +kernel
theorem dX11_takenFrom_48 : decode cX11_takenFrom 48 = .ok (.invokevirtual 309, 3) := by decide +kernel
theorem dX11_takenFrom_51 : decode cX11_takenFrom 51 = .ok (.isub, 1) := by decide +kernel
theorem dX11_takenFrom_52 : decode cX11_takenFrom 52 = .ok (.istore 4, 2) := by decide +kernel
theorem dX11_takenFrom_54 : decode cX11_takenFrom 54 = .ok (.iload_n 2, 1) := by decide +kernel
theorem dX11_takenFrom_55 : decode cX11_takenFrom 55 = .ok (.iconst (-1), 1) := by decide +kernel
theorem dX11_takenFrom_56 : decode cX11_takenFrom 56 = .ok (.if_icmp .eq 28, 3) := by decide +kernel
theorem dX11_takenFrom_59 : decode cX11_takenFrom 59 = .ok (.iload 4, 2) := by decide +kernel
theorem dX11_takenFrom_61 : decode cX11_takenFrom 61 = .ok (.ifCond .lt 23, 3) := by decide +kernel
theorem dX11_takenFrom_64 : decode cX11_takenFrom 64 = .ok (.iload 4, 2) := by decide +kernel
theorem dX11_takenFrom_66 : decode cX11_takenFrom 66 = .ok (.ifCond .ne 20, 3) := by decide +kernel
theorem dX11_takenFrom_69 : decode cX11_takenFrom 69 = .ok (.aload_n 0, 1) := by decide +kernel
theorem dX11_takenFrom_70 : decode cX11_takenFrom 70 = .ok (.getfield 66, 3) := by decide +kernel
theorem dX11_takenFrom_73 : decode cX11_takenFrom 73 = .ok (.iload_n 3, 1) := by decide +kernel
theorem dX11_takenFrom_74 : decode cX11_takenFrom 74 = .ok (.iaload, 1) := by decide +kernel
theorem dX11_takenFrom_75 : decode cX11_takenFrom 75 = .ok (.aload_n 0, 1) := by decide +kernel
theorem dX11_takenFrom_76 : decode cX11_takenFrom 76 = .ok (.getfield 66, 3) := by decide +kernel
theorem dX11_takenFrom_79 : decode cX11_takenFrom 79 = .ok (.iload_n 2, 1) := by decide +kernel
theorem dX11_takenFrom_80 : decode cX11_takenFrom 80 = .ok (.iaload, 1) := by decide +kernel
theorem dX11_takenFrom_81 : decode cX11_takenFrom 81 = .ok (.if_icmp .le 5, 3) := by decide +kernel
theorem dX11_takenFrom_84 : decode cX11_takenFrom 84 = .ok (.iload_n 3, 1) := by decide +kernel
theorem dX11_takenFrom_85 : decode cX11_takenFrom 85 = .ok (.istore_n 2, 1) := by decide +kernel
theorem dX11_takenFrom_86 : decode cX11_takenFrom 86 = .ok (.iinc 3 1, 3) := by decide +kernel
theorem dX11_takenFrom_89 : decode cX11_takenFrom 89 = .ok (.goto (-85), 3) := by decide +kernel
theorem dX11_takenFrom_92 : decode cX11_takenFrom 92 = .ok (.iload_n 2, 1) := by decide +kernel
theorem dX11_takenFrom_93 : decode cX11_takenFrom 93 = .ok (.iconst (-1), 1) := by decide +kernel
theorem dX11_takenFrom_94 : decode cX11_takenFrom 94 = .ok (.if_icmp .eq 13, 3) := by decide +kernel
theorem dX11_takenFrom_97 : decode cX11_takenFrom 97 = .ok (.aload_n 0, 1) := by decide +kernel
theorem dX11_takenFrom_98 : decode cX11_takenFrom 98 = .ok (.iload_n 1, 1) := by decide +kernel
theorem dX11_takenFrom_99 : decode cX11_takenFrom 99 = .ok (.iload_n 2, 1) := by decide +kernel
theorem dX11_takenFrom_100 : decode cX11_takenFrom 100 = .ok (.invokevirtual 309, 3) := by decide +kernel
theorem dX11_takenFrom_103 : decode cX11_takenFrom 103 = .ok (.iconst 4, 1) := by decide +kernel
theorem dX11_takenFrom_104 : decode cX11_takenFrom 104 = .ok (.if_icmp .le 7, 3) := by decide +kernel
theorem dX11_takenFrom_107 : decode cX11_takenFrom 107 = .ok (.iconst (-1), 1) := by decide +kernel
theorem dX11_takenFrom_108 : decode cX11_takenFrom 108 = .ok (.goto 4, 3) := by decide +kernel
theorem dX11_takenFrom_111 : decode cX11_takenFrom 111 = .ok (.iload_n 2, 1) := by decide +kernel
theorem dX11_takenFrom_112 : decode cX11_takenFrom 112 = .ok (.ireturn, 1) := by decide +kernel
theorem dX11_of_0 : decode cX11_of 0 = .ok (.aload_n 0, 1) := by decide +kernel
theorem dX11_of_1 : decode cX11_of 1 = .ok (.iconst 0, 1) := by decide +kernel
theorem dX11_of_2 : decode cX11_of 2 = .ok (.putfield 110, 3) := by decide +kernel
theorem dX11_of_5 : decode cX11_of 5 = .ok (.iload_n 1, 1) := by decide +kernel
theorem dX11_of_6 : decode cX11_of 6 = .ok (.ifCond .lt 20, 3) := by decide +kernel
theorem dX11_of_9 : decode cX11_of 9 = .ok (.iload_n 1, 1) := by decide +kernel
theorem dX11_of_10 : decode cX11_of 10 = .ok (.aload_n 0, 1) := by decide +kernel
theorem dX11_of_11 : decode cX11_of 11 = .ok (.getfield 306, 3) := by decide +kernel
theorem dX11_of_14 : decode cX11_of 14 = .ok (.if_icmp .ge 12, 3) := by decide +kernel
theorem dX11_of_17 : decode cX11_of 17 = .ok (.iload_n 2, 1) := by decide +kernel
theorem dX11_of_18 : decode cX11_of 18 = .ok (.ifCond .lt 8, 3) := by decide +kernel
theorem dX11_of_21 : decode cX11_of 21 = .ok (.iload_n 2, 1) := by decide +kernel
theorem dX11_of_22 : decode cX11_of 22 = .ok (.iconst 4, 1) := by decide +kernel
theorem dX11_of_23 : decode cX11_of 23 = .ok (.if_icmp .le 8, 3) := by decide +kernel
theorem dX11_of_26 : decode cX11_of 26 = .ok (.aload_n 0, 1) := by decide +kernel
theorem dX11_of_27 : decode cX11_of 27 = .ok (.invokevirtual 127, 3) := by decide +kernel
theorem dX11_of_30 : decode cX11_of 30 = .ok (.ireturn, 1) := by decide +kernel
theorem dX11_of_31 : decode cX11_of 31 = .ok (.aload_n 0, 1) := by decide +kernel
theorem dX11_of_32 : decode cX11_of 32 = .ok (.iload_n 1, 1) := by decide +kernel
theorem dX11_of_33 : decode cX11_of 33 = .ok (.invokevirtual 312, 3) := by decide +kernel
theorem dX11_of_36 : decode cX11_of 36 = .ok (.istore_n 3, 1) := by decide +kernel
theorem dX11_of_37 : decode cX11_of 37 = .ok (.iload_n 2, 1) := by decide +kernel
theorem dX11_of_38 : decode cX11_of 38 = .ok (.ifCond .ne 5, 3) := by decide +kernel
theorem dX11_of_41 : decode cX11_of 41 = .ok (.iload_n 3, 1) := by decide +kernel
theorem dX11_of_42 : decode cX11_of 42 = .ok (.ireturn, 1) := by decide +kernel
theorem dX11_of_43 : decode cX11_of 43 = .ok (.iload_n 2, 1) := by decide +kernel
theorem dX11_of_44 : decode cX11_of 44 = .ok (.iconst 1, 1) := by decide +kernel
theorem dX11_of_45 : decode cX11_of 45 = .ok (.if_icmp .ne 19, 3) := by decide +kernel
theorem dX11_of_48 : decode cX11_of 48 = .ok (.iload_n 3, 1) := by decide +kernel
theorem dX11_of_49 : decode cX11_of 49 = .ok (.iconst (-1), 1) := by decide +kernel
theorem dX11_of_50 : decode cX11_of 50 = .ok (.if_icmp .ne 7, 3) := by decide +kernel
theorem dX11_of_53 : decode cX11_of 53 = .ok (.iconst 0, 1) := by decide +kernel
theorem dX11_of_54 : decode cX11_of 54 = .ok (.goto 9, 3) := by decide +kernel
theorem dX11_of_57 : decode cX11_of 57 = .ok (.aload_n 0, 1) := by decide +kernel
theorem dX11_of_58 : decode cX11_of 58 = .ok (.iload_n 1, 1) := by decide +kernel
theorem dX11_of_59 : decode cX11_of 59 = .ok (.iload_n 3, 1) := by decide +kernel
theorem dX11_of_60 : decode cX11_of 60 = .ok (.invokevirtual 309, 3) := by decide +kernel
theorem dX11_of_63 : decode cX11_of 63 = .ok (.ireturn, 1) := by decide +kernel
theorem dX11_of_64 : decode cX11_of 64 = .ok (.iconst 0, 1) := by decide +kernel
theorem dX11_of_65 : decode cX11_of 65 = .ok (.istore 4, 2) := by decide +kernel
theorem dX11_of_67 : decode cX11_of 67 = .ok (.iload_n 1, 1) := by decide +kernel
theorem dX11_of_68 : decode cX11_of 68 = .ok (.istore 5, 2) := by decide +kernel
theorem dX11_of_70 : decode cX11_of 70 = .ok (.iload_n 3, 1) := by decide +kernel
theorem dX11_of_71 : decode cX11_of 71 = .ok (.istore 6, 2) := by decide +kernel
theorem dX11_of_73 : decode cX11_of 73 = .ok (.iload 6, 2) := by decide +kernel
theorem dX11_of_75 : decode cX11_of 75 = .ok (.iconst (-1), 1) := by decide +kernel
theorem dX11_of_76 : decode cX11_of 76 = .ok (.if_icmp .eq 31, 3) := by decide +kernel
theorem dX11_of_79 : decode cX11_of 79 = .ok (.iload 4, 2) := by decide +kernel
theorem dX11_of_81 : decode cX11_of 81 = .ok (.aload_n 0, 1) := by decide +kernel
theorem dX11_of_82 : decode cX11_of 82 = .ok (.iload 5, 2) := by decide +kernel
theorem dX11_of_84 : decode cX11_of 84 = .ok (.iload 6, 2) := by decide +kernel
theorem dX11_of_86 : decode cX11_of 86 = .ok (.invokevirtual 309, 3) := by decide +kernel
theorem dX11_of_89 : decode cX11_of 89 = .ok (.iadd, 1) := by decide +kernel
theorem dX11_of_90 : decode cX11_of 90 = .ok (.istore 4, 2) := by decide +kernel
theorem dX11_of_92 : decode cX11_of 92 = .ok (.iload 6, 2) := by decide +kernel
theorem dX11_of_94 : decode cX11_of 94 = .ok (.istore 5, 2) := by decide +kernel
theorem dX11_of_96 : decode cX11_of 96 = .ok (.aload_n 0, 1) := by decide +kernel
theorem dX11_of_97 : decode cX11_of 97 = .ok (.iload 6, 2) := by decide +kernel
theorem dX11_of_99 : decode cX11_of 99 = .ok (.invokevirtual 312, 3) := by decide +kernel
theorem dX11_of_102 : decode cX11_of 102 = .ok (.istore 6, 2) := by decide +kernel
theorem dX11_of_104 : decode cX11_of 104 = .ok (.goto (-31), 3) := by decide +kernel
theorem dX11_of_107 : decode cX11_of 107 = .ok (.iconst 0, 1) := by decide +kernel
theorem dX11_of_108 : decode cX11_of 108 = .ok (.istore 6, 2) := by decide +kernel
theorem dX11_of_110 : decode cX11_of 110 = .ok (.iconst 0, 1) := by decide +kernel
theorem dX11_of_111 : decode cX11_of 111 = .ok (.istore 7, 2) := by decide +kernel
theorem dX11_of_113 : decode cX11_of 113 = .ok (.iload 7, 2) := by decide +kernel
theorem dX11_of_115 : decode cX11_of 115 = .ok (.aload_n 0, 1) := by decide +kernel
theorem dX11_of_116 : decode cX11_of 116 = .ok (.getfield 306, 3) := by decide +kernel
theorem dX11_of_119 : decode cX11_of 119 = .ok (.if_icmp .ge 29, 3) := by decide +kernel
theorem dX11_of_122 : decode cX11_of 122 = .ok (.iload 6, 2) := by decide +kernel
theorem dX11_of_124 : decode cX11_of 124 = .ok (.aload_n 0, 1) := by decide +kernel
theorem dX11_of_125 : decode cX11_of 125 = .ok (.iload 7, 2) := by decide +kernel
theorem dX11_of_127 : decode cX11_of 127 = .ok (.invokevirtual 312, 3) := by decide +kernel
theorem dX11_of_130 : decode cX11_of 130 = .ok (.iload_n 1, 1) := by decide +kernel
theorem dX11_of_131 : decode cX11_of 131 = .ok (.if_icmp .ne 7, 3) := by decide +kernel
theorem dX11_of_134 : decode cX11_of 134 = .ok (.iconst 1, 1) := by decide +kernel
theorem dX11_of_135 : decode cX11_of 135 = .ok (.goto 4, 3) := by decide +kernel
theorem dX11_of_138 : decode cX11_of 138 = .ok (.iconst 0, 1) := by decide +kernel
theorem dX11_of_139 : decode cX11_of 139 = .ok (.iadd, 1) := by decide +kernel
theorem dX11_of_140 : decode cX11_of 140 = .ok (.istore 6, 2) := by decide +kernel
theorem dX11_of_142 : decode cX11_of 142 = .ok (.iinc 7 1, 3) := by decide +kernel
theorem dX11_of_145 : decode cX11_of 145 = .ok (.goto (-32), 3) := by decide +kernel
theorem dX11_of_148 : decode cX11_of 148 = .ok (.iload_n 2, 1) := by decide +kernel
theorem dX11_of_149 : decode cX11_of 149 = .ok (.iconst 2, 1) := by decide +kernel
theorem dX11_of_150 : decode cX11_of 150 = .ok (.if_icmp .ne 8, 3) := by decide +kernel
theorem dX11_of_153 : decode cX11_of 153 = .ok (.iload 4, 2) := by decide +kernel
theorem dX11_of_155 : decode cX11_of 155 = .ok (.goto 15, 3) := by decide +kernel
theorem dX11_of_158 : decode cX11_of 158 = .ok (.iload_n 2, 1) := by decide +kernel
theorem dX11_of_159 : decode cX11_of 159 = .ok (.iconst 3, 1) := by decide +kernel
theorem dX11_of_160 : decode cX11_of 160 = .ok (.if_icmp .ne 8, 3) := by decide +kernel
theorem dX11_of_163 : decode cX11_of 163 = .ok (.iload 5, 2) := by decide +kernel
theorem dX11_of_165 : decode cX11_of 165 = .ok (.goto 5, 3) := by decide +kernel
theorem dX11_of_168 : decode cX11_of 168 = .ok (.iload 6, 2) := by decide +kernel
theorem dX11_of_170 : decode cX11_of 170 = .ok (.ireturn, 1) := by decide +kernel
theorem dX11_count_0 : decode cX11_count 0 = .ok (.aload_n 0, 1) := by decide +kernel
theorem dX11_count_1 : decode cX11_count 1 = .ok (.iconst 0, 1) := by decide +kernel
theorem dX11_count_2 : decode cX11_count 2 = .ok (.putfield 110, 3) := by decide +kernel
theorem dX11_count_5 : decode cX11_count 5 = .ok (.iload_n 1, 1) := by decide +kernel
theorem dX11_count_6 : decode cX11_count 6 = .ok (.tableswitch 59 0 4 #[34, 39, 44, 49, 54], 34) := by decide +kernel
theorem dX11_count_40 : decode cX11_count 40 = .ok (.aload_n 0, 1) := by decide +kernel
theorem dX11_count_41 : decode cX11_count 41 = .ok (.getfield 113, 3) := by decide +kernel
theorem dX11_count_44 : decode cX11_count 44 = .ok (.ireturn, 1) := by decide +kernel
theorem dX11_count_45 : decode cX11_count 45 = .ok (.aload_n 0, 1) := by decide +kernel
theorem dX11_count_46 : decode cX11_count 46 = .ok (.getfield 135, 3) := by decide +kernel
theorem dX11_count_49 : decode cX11_count 49 = .ok (.ireturn, 1) := by decide +kernel
theorem dX11_count_50 : decode cX11_count 50 = .ok (.aload_n 0, 1) := by decide +kernel
theorem dX11_count_51 : decode cX11_count 51 = .ok (.getfield 240, 3) := by decide +kernel
theorem dX11_count_54 : decode cX11_count 54 = .ok (.ireturn, 1) := by decide +kernel
theorem dX11_count_55 : decode cX11_count 55 = .ok (.aload_n 0, 1) := by decide +kernel
theorem dX11_count_56 : decode cX11_count 56 = .ok (.getfield 306, 3) := by decide +kernel
theorem dX11_count_59 : decode cX11_count 59 = .ok (.ireturn, 1) := by decide +kernel
theorem dX11_count_60 : decode cX11_count 60 = .ok (.aload_n 0, 1) := by decide +kernel
theorem dX11_count_61 : decode cX11_count 61 = .ok (.getfield 197, 3) := by decide +kernel
theorem dX11_count_64 : decode cX11_count 64 = .ok (.ireturn, 1) := by decide +kernel
theorem dX11_count_65 : decode cX11_count 65 = .ok (.aload_n 0, 1) := by decide +kernel
theorem dX11_count_66 : decode cX11_count 66 = .ok (.invokevirtual 127, 3) := by decide +kernel
theorem dX11_count_69 : decode cX11_count 69 = .ok (.ireturn, 1) := by decide +kernel
end
section
theorem dX2_init_0 : decode cX2_init 0 = .ok (.aload_n 0, 1) := by decide +kernel
theorem dX2_init_1 : decode cX2_init 1 = .ok (.invokespecial 3, 3) := by decide +kernel
theorem dX2_init_4 : decode cX2_init 4 = .ok (.aload_n 0, 1) := by decide +kernel
theorem dX2_init_5 : decode cX2_init 5 = .ok (.bipush 6, 2) := by decide +kernel
theorem dX2_init_7 : decode cX2_init 7 = .ok (.anewarray 11, 3) := by decide +kernel
theorem dX2_init_10 : decode cX2_init 10 = .ok (.putfield 13, 3) := by decide +kernel
theorem dX2_init_13 : decode cX2_init 13 = .ok (.aload_n 0, 1) := by decide +kernel
theorem dX2_init_14 : decode cX2_init 14 = .ok (.bipush 8, 2) := by decide +kernel
theorem dX2_init_16 : decode cX2_init 16 = .ok (.newarray .int, 2) := by decide +kernel
theorem dX2_init_18 : decode cX2_init 18 = .ok (.putfield 17, 3) := by decide +kernel
theorem dX2_init_21 : decode cX2_init 21 = .ok (.aload_n 0, 1) := by decide +kernel
theorem dX2_init_22 : decode cX2_init 22 = .ok (.bipush 24, 2) := by decide +kernel
theorem dX2_init_24 : decode cX2_init 24 = .ok (.newarray .int, 2) := by decide +kernel
theorem dX2_init_26 : decode cX2_init 26 = .ok (.putfield 21, 3) := by decide +kernel
theorem dX2_init_29 : decode cX2_init 29 = .ok (.aload_n 0, 1) := by decide +kernel
theorem dX2_init_30 : decode cX2_init 30 = .ok (.iconst 0, 1) := by decide +kernel
theorem dX2_init_31 : decode cX2_init 31 = .ok (.putfield 24, 3) := by decide +kernel
theorem dX2_init_34 : decode cX2_init 34 = .ok (.aload_n 0, 1) := by decide +kernel
theorem dX2_init_35 : decode cX2_init 35 = .ok (.iconst 0, 1) := by decide +kernel
theorem dX2_init_36 : decode cX2_init 36 = .ok (.putfield 28, 3) := by decide +kernel
theorem dX2_init_39 : decode cX2_init 39 = .ok (.aload_n 0, 1) := by decide +kernel
theorem dX2_init_40 : decode cX2_init 40 = .ok (.iconst 0, 1) := by decide +kernel
theorem dX2_init_41 : decode cX2_init 41 = .ok (.putfield 31, 3) := by decide +kernel
theorem dX2_init_44 : decode cX2_init 44 = .ok (.aload_n 0, 1) := by decide +kernel
theorem dX2_init_45 : decode cX2_init 45 = .ok (.iconst 0, 1) := by decide +kernel
theorem dX2_init_46 : decode cX2_init 46 = .ok (.putfield 35, 3) := by decide +kernel
theorem dX2_init_49 : decode cX2_init 49 = .ok (.aload_n 0, 1) := by decide +kernel
theorem dX2_init_50 : decode cX2_init 50 = .ok (.iconst 0, 1) := by decide +kernel
theorem dX2_init_51 : decode cX2_init 51 = .ok (.putfield 38, 3) := by decide +kernel
theorem dX2_init_54 : decode cX2_init 54 = .ok (.return_, 1) := by decide +kernel
theorem dX2_isFull_0 : decode cX2_isFull 0 = .ok (.aload_n 0, 1) := by decide +kernel
theorem dX2_isFull_1 : decode cX2_isFull 1 = .ok (.getfield 24, 3) := by decide +kernel
theorem dX2_isFull_4 : decode cX2_isFull 4 = .ok (.bipush 6, 2) := by decide +kernel
theorem dX2_isFull_6 : decode cX2_isFull 6 = .ok (.if_icmp .lt 7, 3) := by decide +kernel
theorem dX2_isFull_9 : decode cX2_isFull 9 = .ok (.iconst 1, 1) := by decide +kernel
theorem dX2_isFull_10 : decode cX2_isFull 10 = .ok (.goto 4, 3) := by decide +kernel
theorem dX2_isFull_13 : decode cX2_isFull 13 = .ok (.iconst 0, 1) := by decide +kernel
theorem dX2_isFull_14 : decode cX2_isFull 14 = .ok (.ireturn, 1) := by decide +kernel
theorem dX2_add_0 : decode cX2_add 0 = .ok (.aload_n 0, 1) := by decide +kernel
theorem dX2_add_1 : decode cX2_add 1 = .ok (.invokevirtual 41, 3) := by decide +kernel
theorem dX2_add_4 : decode cX2_add 4 = .ok (.ifCond .eq 5, 3) := by decide +kernel
theorem dX2_add_7 : decode cX2_add 7 = .ok (.iconst (-1), 1) := by decide +kernel
theorem dX2_add_8 : decode cX2_add 8 = .ok (.ireturn, 1) := by decide +kernel
theorem dX2_add_9 : decode cX2_add 9 = .ok (.aload_n 0, 1) := by decide +kernel
theorem dX2_add_10 : decode cX2_add 10 = .ok (.getfield 24, 3) := by decide +kernel
theorem dX2_add_13 : decode cX2_add 13 = .ok (.istore_n 3, 1) := by decide +kernel
theorem dX2_add_14 : decode cX2_add 14 = .ok (.aload_n 0, 1) := by decide +kernel
theorem dX2_add_15 : decode cX2_add 15 = .ok (.getfield 13, 3) := by decide +kernel
theorem dX2_add_18 : decode cX2_add 18 = .ok (.iload_n 3, 1) := by decide +kernel
theorem dX2_add_19 : decode cX2_add 19 = .ok (.new 11, 3) := by decide +kernel
theorem dX2_add_22 : decode cX2_add 22 = .ok (.dup, 1) := by decide +kernel
theorem dX2_add_23 : decode cX2_add 23 = .ok (.aload_n 1, 1) := by decide +kernel
theorem dX2_add_24 : decode cX2_add 24 = .ok (.iload_n 2, 1) := by decide +kernel
theorem dX2_add_25 : decode cX2_add 25 = .ok (.invokespecial 45, 3) := by decide +kernel
theorem dX2_add_28 : decode cX2_add 28 = .ok (.aastore, 1) := by decide +kernel
theorem dX2_add_29 : decode cX2_add 29 = .ok (.aload_n 0, 1) := by decide +kernel
theorem dX2_add_30 : decode cX2_add 30 = .ok (.iload_n 3, 1) := by decide +kernel
theorem dX2_add_31 : decode cX2_add 31 = .ok (.iconst 1, 1) := by decide +kernel
theorem dX2_add_32 : decode cX2_add 32 = .ok (.iadd, 1) := by decide +kernel
theorem dX2_add_33 : decode cX2_add 33 = .ok (.putfield 24, 3) := by decide +kernel
theorem dX2_add_36 : decode cX2_add 36 = .ok (.iload_n 3, 1) := by decide +kernel
theorem dX2_add_37 : decode cX2_add 37 = .ok (.ireturn, 1) := by decide +kernel
theorem dX2_setName_0 : decode cX2_setName 0 = .ok (.iload_n 1, 1) := by decide +kernel
theorem dX2_setName_1 : decode cX2_setName 1 = .ok (.bipush 100, 2) := by decide +kernel
theorem dX2_setName_3 : decode cX2_setName 3 = .ok (.isub, 1) := by decide +kernel
theorem dX2_setName_4 : decode cX2_setName 4 = .ok (.istore_n 3, 1) := by decide +kernel
theorem dX2_setName_5 : decode cX2_setName 5 = .ok (.iload_n 3, 1) := by decide +kernel
theorem dX2_setName_6 : decode cX2_setName 6 = .ok (.ifCond .lt 16, 3) := by decide +kernel
theorem dX2_setName_9 : decode cX2_setName 9 = .ok (.iload_n 3, 1) := by decide +kernel
theorem dX2_setName_10 : decode cX2_setName 10 = .ok (.bipush 8, 2) := by decide +kernel
theorem dX2_setName_12 : decode cX2_setName 12 = .ok (.if_icmp .ge 10, 3) := by decide +kernel
theorem dX2_setName_15 : decode cX2_setName 15 = .ok (.aload_n 0, 1) := by decide +kernel
theorem dX2_setName_16 : decode cX2_setName 16 = .ok (.getfield 17, 3) := by decide +kernel
theorem dX2_setName_19 : decode cX2_setName 19 = .ok (.iload_n 3, 1) := by decide +kernel
theorem dX2_setName_20 : decode cX2_setName 20 = .ok (.iload_n 2, 1) := by decide +kernel
theorem dX2_setName_21 : decode cX2_setName 21 = .ok (.iastore, 1) := by decide +kernel
theorem dX2_setName_22 : decode cX2_setName 22 = .ok (.return_, 1) := by decide +kernel
theorem dX2_nameValue_0 : decode cX2_nameValue 0 = .ok (.iload_n 1, 1) := by decide +kernel
theorem dX2_nameValue_1 : decode cX2_nameValue 1 = .ok (.bipush 100, 2) := by decide +kernel
theorem dX2_nameValue_3 : decode cX2_nameValue 3 = .ok (.isub, 1) := by decide +kernel
theorem dX2_nameValue_4 : decode cX2_nameValue 4 = .ok (.istore_n 2, 1) := by decide +kernel
theorem dX2_nameValue_5 : decode cX2_nameValue 5 = .ok (.iload_n 2, 1) := by decide +kernel
theorem dX2_nameValue_6 : decode cX2_nameValue 6 = .ok (.ifCond .lt 18, 3) := by decide +kernel
theorem dX2_nameValue_9 : decode cX2_nameValue 9 = .ok (.iload_n 2, 1) := by decide +kernel
theorem dX2_nameValue_10 : decode cX2_nameValue 10 = .ok (.bipush 8, 2) := by decide +kernel
theorem dX2_nameValue_12 : decode cX2_nameValue 12 = .ok (.if_icmp .ge 12, 3) := by decide +kernel
theorem dX2_nameValue_15 : decode cX2_nameValue 15 = .ok (.aload_n 0, 1) := by decide +kernel
theorem dX2_nameValue_16 : decode cX2_nameValue 16 = .ok (.getfield 17, 3) := by decide +kernel
theorem dX2_nameValue_19 : decode cX2_nameValue 19 = .ok (.iload_n 2, 1) := by decide +kernel
theorem dX2_nameValue_20 : decode cX2_nameValue 20 = .ok (.iaload, 1) := by decide +kernel
theorem dX2_nameValue_21 : decode cX2_nameValue 21 = .ok (.goto 4, 3) := by decide +kernel
theorem dX2_nameValue_24 : decode cX2_nameValue 24 = .ok (.iconst 0, 1) := by decide +kernel
theorem dX2_nameValue_25 : decode cX2_nameValue 25 = .ok (.ireturn, 1) := by decide +kernel
theorem dX2_judge_0 : decode cX2_judge 0 = .ok (.aload_n 0, 1) := by decide +kernel
theorem dX2_judge_1 : decode cX2_judge 1 = .ok (.iconst 0, 1) := by decide +kernel
theorem dX2_judge_2 : decode cX2_judge 2 = .ok (.putfield 31, 3) := by decide +kernel
theorem dX2_judge_5 : decode cX2_judge 5 = .ok (.aload_n 0, 1) := by decide +kernel
theorem dX2_judge_6 : decode cX2_judge 6 = .ok (.iconst 0, 1) := by decide +kernel
theorem dX2_judge_7 : decode cX2_judge 7 = .ok (.putfield 35, 3) := by decide +kernel
theorem dX2_judge_10 : decode cX2_judge 10 = .ok (.aload_n 0, 1) := by decide +kernel
theorem dX2_judge_11 : decode cX2_judge 11 = .ok (.iconst 0, 1) := by decide +kernel
theorem dX2_judge_12 : decode cX2_judge 12 = .ok (.putfield 38, 3) := by decide +kernel
theorem dX2_judge_15 : decode cX2_judge 15 = .ok (.aload_n 0, 1) := by decide +kernel
theorem dX2_judge_16 : decode cX2_judge 16 = .ok (.iconst 0, 1) := by decide +kernel
theorem dX2_judge_17 : decode cX2_judge 17 = .ok (.putfield 28, 3) := by decide +kernel
theorem dX2_judge_20 : decode cX2_judge 20 = .ok (.aload_n 0, 1) := by decide +kernel
theorem dX2_judge_21 : decode cX2_judge 21 = .ok (.iload_n 1, 1) := by decide +kernel
theorem dX2_judge_22 : decode cX2_judge 22 = .ok (.invokevirtual 50, 3) := by decide +kernel
theorem dX2_judge_25 : decode cX2_judge 25 = .ok (.astore_n 2, 1) := by decide +kernel
theorem dX2_judge_26 : decode cX2_judge 26 = .ok (.aload_n 2, 1) := by decide +kernel
theorem dX2_judge_27 : decode cX2_judge 27 = .ok (.ifnonnull 4, 3) := by decide +kernel
theorem dX2_judge_30 : decode cX2_judge 30 = .ok (.return_, 1) := by decide +kernel
theorem dX2_judge_31 : decode cX2_judge 31 = .ok (.iconst 0, 1) := by decide +kernel
theorem dX2_judge_32 : decode cX2_judge 32 = .ok (.istore_n 3, 1) := by decide +kernel
theorem dX2_judge_33 : decode cX2_judge 33 = .ok (.iload_n 3, 1) := by decide +kernel
theorem dX2_judge_34 : decode cX2_judge 34 = .ok (.aload_n 2, 1) := by decide +kernel
theorem dX2_judge_35 : decode cX2_judge 35 = .ok (.getfield 54, 3) := by decide +kernel
theorem dX2_judge_38 : decode cX2_judge 38 = .ok (.arraylength, 1) := by decide +kernel
theorem dX2_judge_39 : decode cX2_judge 39 = .ok (.if_icmp .ge 19, 3) := by decide +kernel
theorem dX2_judge_42 : decode cX2_judge 42 = .ok (.aload_n 0, 1) := by decide +kernel
theorem dX2_judge_43 : decode cX2_judge 43 = .ok (.aload_n 2, 1) := by decide +kernel
theorem dX2_judge_44 : decode cX2_judge 44 = .ok (.getfield 54, 3) := by decide +kernel
theorem dX2_judge_47 : decode cX2_judge 47 = .ok (.iload_n 3, 1) := by decide +kernel
theorem dX2_judge_48 : decode cX2_judge 48 = .ok (.iaload, 1) := by decide +kernel
theorem dX2_judge_49 : decode cX2_judge 49 = .ok (.invokevirtual 57, 3) := by decide +kernel
theorem dX2_judge_52 : decode cX2_judge 52 = .ok (.iinc 3 1, 3) := by decide +kernel
theorem dX2_judge_55 : decode cX2_judge 55 = .ok (.goto (-22), 3) := by decide +kernel
theorem dX2_judge_58 : decode cX2_judge 58 = .ok (.return_, 1) := by decide +kernel
theorem dX2_inForce_0 : decode cX2_inForce 0 = .ok (.aconst_null, 1) := by decide +kernel
theorem dX2_inForce_1 : decode cX2_inForce 1 = .ok (.astore_n 2, 1) := by decide +kernel
theorem dX2_inForce_2 : decode cX2_inForce 2 = .ok (.sipush 1000, 3) := by decide +kernel
theorem dX2_inForce_5 : decode cX2_inForce 5 = .ok (.istore_n 3, 1) := by decide +kernel
theorem dX2_inForce_6 : decode cX2_inForce 6 = .ok (.iconst 0, 1) := by decide +kernel
theorem dX2_inForce_7 : decode cX2_inForce 7 = .ok (.istore 4, 2) := by decide +kernel
theorem dX2_inForce_9 : decode cX2_inForce 9 = .ok (.iload 4, 2) := by decide +kernel
theorem dX2_inForce_11 : decode cX2_inForce 11 = .ok (.aload_n 0, 1) := by decide +kernel
theorem dX2_inForce_12 : decode cX2_inForce 12 = .ok (.getfield 24, 3) := by decide +kernel
theorem dX2_inForce_15 : decode cX2_inForce 15 = .ok (.if_icmp .ge 50, 3) := by decide +kernel
theorem dX2_inForce_18 : decode cX2_inForce 18 = .ok (.aload_n 0, 1) := by decide +kernel
theorem dX2_inForce_19 : decode cX2_inForce 19 = .ok (.getfield 13, 3) := by decide +kernel
theorem dX2_inForce_22 : decode cX2_inForce 22 = .ok (.iload 4, 2) := by decide +kernel
theorem dX2_inForce_24 : decode cX2_inForce 24 = .ok (.aaload, 1) := by decide +kernel
theorem dX2_inForce_25 : decode cX2_inForce 25 = .ok (.astore 5, 2) := by decide +kernel
theorem dX2_inForce_27 : decode cX2_inForce 27 = .ok (.aload 5, 2) := by decide +kernel
theorem dX2_inForce_29 : decode cX2_inForce 29 = .ok (.ifnull 30, 3) := by decide +kernel
theorem dX2_inForce_32 : decode cX2_inForce 32 = .ok (.aload 5, 2) := by decide +kernel
theorem dX2_inForce_34 : decode cX2_inForce 34 = .ok (.getfield 61, 3) := by decide +kernel
theorem dX2_inForce_37 : decode cX2_inForce 37 = .ok (.iload_n 1, 1) := by decide +kernel
theorem dX2_inForce_38 : decode cX2_inForce 38 = .ok (.if_icmp .gt 21, 3) := by decide +kernel
theorem dX2_inForce_41 : decode cX2_inForce 41 = .ok (.aload 5, 2) := by decide +kernel
theorem dX2_inForce_43 : decode cX2_inForce 43 = .ok (.getfield 61, 3) := by decide +kernel
theorem dX2_inForce_46 : decode cX2_inForce 46 = .ok (.iload_n 3, 1) := by decide +kernel
theorem dX2_inForce_47 : decode cX2_inForce 47 = .ok (.if_icmp .lt 12, 3) := by decide +kernel
theorem dX2_inForce_50 : decode cX2_inForce 50 = .ok (.aload 5, 2) := by decide +kernel
theorem dX2_inForce_52 : decode cX2_inForce 52 = .ok (.astore_n 2, 1) := by decide +kernel
theorem dX2_inForce_53 : decode cX2_inForce 53 = .ok (.aload 5, 2) := by decide +kernel
theorem dX2_inForce_55 : decode cX2_inForce 55 = .ok (.getfield 61, 3) := by decide +kernel
theorem dX2_inForce_58 : decode cX2_inForce 58 = .ok (.istore_n 3, 1) := by decide +kernel
theorem dX2_inForce_59 : decode cX2_inForce 59 = .ok (.iinc 4 1, 3) := by decide +kernel
theorem dX2_inForce_62 : decode cX2_inForce 62 = .ok (.goto (-53), 3) := by decide +kernel
theorem dX2_inForce_65 : decode cX2_inForce 65 = .ok (.aload_n 2, 1) := by decide +kernel
theorem dX2_inForce_66 : decode cX2_inForce 66 = .ok (.areturn, 1) := by decide +kernel
theorem dX2_push_0 : decode cX2_push 0 = .ok (.aload_n 0, 1) := by decide +kernel
theorem dX2_push_1 : decode cX2_push 1 = .ok (.getfield 28, 3) := by decide +kernel
theorem dX2_push_4 : decode cX2_push 4 = .ok (.bipush 24, 2) := by decide +kernel
theorem dX2_push_6 : decode cX2_push 6 = .ok (.if_icmp .ge 23, 3) := by decide +kernel
theorem dX2_push_9 : decode cX2_push 9 = .ok (.aload_n 0, 1) := by decide +kernel
theorem dX2_push_10 : decode cX2_push 10 = .ok (.getfield 21, 3) := by decide +kernel
theorem dX2_push_13 : decode cX2_push 13 = .ok (.aload_n 0, 1) := by decide +kernel
theorem dX2_push_14 : decode cX2_push 14 = .ok (.getfield 28, 3) := by decide +kernel
theorem dX2_push_17 : decode cX2_push 17 = .ok (.iload_n 1, 1) := by decide +kernel
theorem dX2_push_18 : decode cX2_push 18 = .ok (.iastore, 1) := by decide +kernel
theorem dX2_push_19 : decode cX2_push 19 = .ok (.aload_n 0, 1) := by decide +kernel
theorem dX2_push_20 : decode cX2_push 20 = .ok (.dup, 1) := by decide +kernel
theorem dX2_push_21 : decode cX2_push 21 = .ok (.getfield 28, 3) := by decide +kernel
theorem dX2_push_24 : decode cX2_push 24 = .ok (.iconst 1, 1) := by decide +kernel
theorem dX2_push_25 : decode cX2_push 25 = .ok (.iadd, 1) := by decide +kernel
theorem dX2_push_26 : decode cX2_push 26 = .ok (.putfield 28, 3) := by decide +kernel
theorem dX2_push_29 : decode cX2_push 29 = .ok (.return_, 1) := by decide +kernel
theorem dX2_pop_0 : decode cX2_pop 0 = .ok (.aload_n 0, 1) := by decide +kernel
theorem dX2_pop_1 : decode cX2_pop 1 = .ok (.getfield 28, 3) := by decide +kernel
theorem dX2_pop_4 : decode cX2_pop 4 = .ok (.ifCond .gt 5, 3) := by decide +kernel
theorem dX2_pop_7 : decode cX2_pop 7 = .ok (.iconst 0, 1) := by decide +kernel
theorem dX2_pop_8 : decode cX2_pop 8 = .ok (.ireturn, 1) := by decide +kernel
theorem dX2_pop_9 : decode cX2_pop 9 = .ok (.aload_n 0, 1) := by decide +kernel
theorem dX2_pop_10 : decode cX2_pop 10 = .ok (.dup, 1) := by decide +kernel
theorem dX2_pop_11 : decode cX2_pop 11 = .ok (.getfield 28, 3) := by decide +kernel
theorem dX2_pop_14 : decode cX2_pop 14 = .ok (.iconst 1, 1) := by decide +kernel
theorem dX2_pop_15 : decode cX2_pop 15 = .ok (.isub, 1) := by decide +kernel
theorem dX2_pop_16 : decode cX2_pop 16 = .ok (.putfield 28, 3) := by decide +kernel
theorem dX2_pop_19 : decode cX2_pop 19 = .ok (.aload_n 0, 1) := by decide +kernel
theorem dX2_pop_20 : decode cX2_pop 20 = .ok (.getfield 21, 3) := by decide +kernel
theorem dX2_pop_23 : decode cX2_pop 23 = .ok (.aload_n 0, 1) := by decide +kernel
theorem dX2_pop_24 : decode cX2_pop 24 = .ok (.getfield 28, 3) := by decide +kernel
theorem dX2_pop_27 : decode cX2_pop 27 = .ok (.iaload, 1) := by decide +kernel
theorem dX2_pop_28 : decode cX2_pop 28 = .ok (.ireturn, 1) := by decide +kernel
theorem dX2_work_0 : decode cX2_work 0 = .ok (.iload_n 1, 1) := by decide +kernel
theorem dX2_work_1 : decode cX2_work 1 = .ok (.invokestatic 64, 3) := by decide +kernel
theorem dX2_work_4 : decode cX2_work 4 = .ok (.ifCond .eq 15, 3) := by decide +kernel
theorem dX2_work_7 : decode cX2_work 7 = .ok (.aload_n 0, 1) := by decide +kernel
theorem dX2_work_8 : decode cX2_work 8 = .ok (.iload_n 1, 1) := by decide +kernel
theorem dX2_work_9 : decode cX2_work 9 = .ok (.sipush 1000, 3) := by decide +kernel
theorem dX2_work_12 : decode cX2_work 12 = .ok (.isub, 1) := by decide +kernel
theorem dX2_work_13 : decode cX2_work 13 = .ok (.invokevirtual 68, 3) := by decide +kernel
theorem dX2_work_16 : decode cX2_work 16 = .ok (.goto 154, 3) := by decide +kernel
theorem dX2_work_19 : decode cX2_work 19 = .ok (.iload_n 1, 1) := by decide +kernel
theorem dX2_work_20 : decode cX2_work 20 = .ok (.invokestatic 71, 3) := by decide +kernel
theorem dX2_work_23 : decode cX2_work 23 = .ok (.ifCond .eq 15, 3) := by decide +kernel
theorem dX2_work_26 : decode cX2_work 26 = .ok (.aload_n 0, 1) := by decide +kernel
theorem dX2_work_27 : decode cX2_work 27 = .ok (.aload_n 0, 1) := by decide +kernel
theorem dX2_work_28 : decode cX2_work 28 = .ok (.iload_n 1, 1) := by decide +kernel
theorem dX2_work_29 : decode cX2_work 29 = .ok (.invokevirtual 74, 3) := by decide +kernel
theorem dX2_work_32 : decode cX2_work 32 = .ok (.invokevirtual 68, 3) := by decide +kernel
theorem dX2_work_35 : decode cX2_work 35 = .ok (.goto 135, 3) := by decide +kernel
theorem dX2_work_38 : decode cX2_work 38 = .ok (.iload_n 1, 1) := by decide +kernel
theorem dX2_work_39 : decode cX2_work 39 = .ok (.bipush 9, 2) := by decide +kernel
theorem dX2_work_41 : decode cX2_work 41 = .ok (.if_icmp .ne 25, 3) := by decide +kernel
theorem dX2_work_44 : decode cX2_work 44 = .ok (.aload_n 0, 1) := by decide +kernel
theorem dX2_work_45 : decode cX2_work 45 = .ok (.aload_n 0, 1) := by decide +kernel
theorem dX2_work_46 : decode cX2_work 46 = .ok (.invokevirtual 78, 3) := by decide +kernel
theorem dX2_work_49 : decode cX2_work 49 = .ok (.ifCond .ne 7, 3) := by decide +kernel
theorem dX2_work_52 : decode cX2_work 52 = .ok (.iconst 1, 1) := by decide +kernel
theorem dX2_work_53 : decode cX2_work 53 = .ok (.goto 4, 3) := by decide +kernel
theorem dX2_work_56 : decode cX2_work 56 = .ok (.iconst 0, 1) := by decide +kernel
theorem dX2_work_57 : decode cX2_work 57 = .ok (.invokestatic 82, 3) := by decide +kernel
theorem dX2_work_60 : decode cX2_work 60 = .ok (.invokevirtual 68, 3) := by decide +kernel
theorem dX2_work_63 : decode cX2_work 63 = .ok (.goto 107, 3) := by decide +kernel
theorem dX2_work_66 : decode cX2_work 66 = .ok (.iload_n 1, 1) := by decide +kernel
theorem dX2_work_67 : decode cX2_work 67 = .ok (.iconst 4, 1) := by decide +kernel
theorem dX2_work_68 : decode cX2_work 68 = .ok (.if_icmp .ne 29, 3) := by decide +kernel
theorem dX2_work_71 : decode cX2_work 71 = .ok (.aload_n 0, 1) := by decide +kernel
theorem dX2_work_72 : decode cX2_work 72 = .ok (.aload_n 0, 1) := by decide +kernel
theorem dX2_work_73 : decode cX2_work 73 = .ok (.invokevirtual 78, 3) := by decide +kernel
theorem dX2_work_76 : decode cX2_work 76 = .ok (.ifCond .ne 10, 3) := by decide +kernel
theorem dX2_work_79 : decode cX2_work 79 = .ok (.aload_n 0, 1) := by decide +kernel
theorem dX2_work_80 : decode cX2_work 80 = .ok (.getfield 31, 3) := by decide +kernel
theorem dX2_work_83 : decode cX2_work 83 = .ok (.ifCond .eq 7, 3) := by decide +kernel
theorem dX2_work_86 : decode cX2_work 86 = .ok (.iconst 1, 1) := by decide +kernel
theorem dX2_work_87 : decode cX2_work 87 = .ok (.goto 4, 3) := by decide +kernel
theorem dX2_work_90 : decode cX2_work 90 = .ok (.iconst 0, 1) := by decide +kernel
theorem dX2_work_91 : decode cX2_work 91 = .ok (.putfield 31, 3) := by decide +kernel
theorem dX2_work_94 : decode cX2_work 94 = .ok (.goto 76, 3) := by decide +kernel
theorem dX2_work_97 : decode cX2_work 97 = .ok (.iload_n 1, 1) := by decide +kernel
theorem dX2_work_98 : decode cX2_work 98 = .ok (.iconst 5, 1) := by decide +kernel
theorem dX2_work_99 : decode cX2_work 99 = .ok (.if_icmp .ne 29, 3) := by decide +kernel
theorem dX2_work_102 : decode cX2_work 102 = .ok (.aload_n 0, 1) := by decide +kernel
theorem dX2_work_103 : decode cX2_work 103 = .ok (.aload_n 0, 1) := by decide +kernel
theorem dX2_work_104 : decode cX2_work 104 = .ok (.invokevirtual 78, 3) := by decide +kernel
theorem dX2_work_107 : decode cX2_work 107 = .ok (.ifCond .ne 10, 3) := by decide +kernel
theorem dX2_work_110 : decode cX2_work 110 = .ok (.aload_n 0, 1) := by decide +kernel
theorem dX2_work_111 : decode cX2_work 111 = .ok (.getfield 35, 3) := by decide +kernel
theorem dX2_work_114 : decode cX2_work 114 = .ok (.ifCond .eq 7, 3) := by decide +kernel
theorem dX2_work_117 : decode cX2_work 117 = .ok (.iconst 1, 1) := by decide +kernel
theorem dX2_work_118 : decode cX2_work 118 = .ok (.goto 4, 3) := by decide +kernel
theorem dX2_work_121 : decode cX2_work 121 = .ok (.iconst 0, 1) := by decide +kernel
theorem dX2_work_122 : decode cX2_work 122 = .ok (.putfield 35, 3) := by decide +kernel
theorem dX2_work_125 : decode cX2_work 125 = .ok (.goto 45, 3) := by decide +kernel
theorem dX2_work_128 : decode cX2_work 128 = .ok (.iload_n 1, 1) := by decide +kernel
theorem dX2_work_129 : decode cX2_work 129 = .ok (.bipush 6, 2) := by decide +kernel
theorem dX2_work_131 : decode cX2_work 131 = .ok (.if_icmp .ne 19, 3) := by decide +kernel
theorem dX2_work_134 : decode cX2_work 134 = .ok (.aload_n 0, 1) := by decide +kernel
theorem dX2_work_135 : decode cX2_work 135 = .ok (.dup, 1) := by decide +kernel
theorem dX2_work_136 : decode cX2_work 136 = .ok (.getfield 38, 3) := by decide +kernel
theorem dX2_work_139 : decode cX2_work 139 = .ok (.aload_n 0, 1) := by decide +kernel
theorem dX2_work_140 : decode cX2_work 140 = .ok (.invokevirtual 78, 3) := by decide +kernel
theorem dX2_work_143 : decode cX2_work 143 = .ok (.iadd, 1) := by decide +kernel
theorem dX2_work_144 : decode cX2_work 144 = .ok (.putfield 38, 3) := by decide +kernel
theorem dX2_work_147 : decode cX2_work 147 = .ok (.goto 23, 3) := by decide +kernel
theorem dX2_work_150 : decode cX2_work 150 = .ok (.aload_n 0, 1) := by decide +kernel
theorem dX2_work_151 : decode cX2_work 151 = .ok (.invokevirtual 78, 3) := by decide +kernel
theorem dX2_work_154 : decode cX2_work 154 = .ok (.istore_n 2, 1) := by decide +kernel
theorem dX2_work_155 : decode cX2_work 155 = .ok (.aload_n 0, 1) := by decide +kernel
theorem dX2_work_156 : decode cX2_work 156 = .ok (.invokevirtual 78, 3) := by decide +kernel
theorem dX2_work_159 : decode cX2_work 159 = .ok (.istore_n 3, 1) := by decide +kernel
theorem dX2_work_160 : decode cX2_work 160 = .ok (.aload_n 0, 1) := by decide +kernel
theorem dX2_work_161 : decode cX2_work 161 = .ok (.iload_n 1, 1) := by decide +kernel
theorem dX2_work_162 : decode cX2_work 162 = .ok (.iload_n 3, 1) := by decide +kernel
theorem dX2_work_163 : decode cX2_work 163 = .ok (.iload_n 2, 1) := by decide +kernel
theorem dX2_work_164 : decode cX2_work 164 = .ok (.invokestatic 86, 3) := by decide +kernel
theorem dX2_work_167 : decode cX2_work 167 = .ok (.invokevirtual 68, 3) := by decide +kernel
theorem dX2_work_170 : decode cX2_work 170 = .ok (.return_, 1) := by decide +kernel
theorem dX2_joined_0 : decode cX2_joined 0 = .ok (.iload_n 0, 1) := by decide +kernel
theorem dX2_joined_1 : decode cX2_joined 1 = .ok (.lookupswitch 129 #[(7, 95), (8, 112), (43, 59), (45, 63), (60, 67), (61, 81)], 59) := by decide +kernel
theorem dX2_joined_60 : decode cX2_joined 60 = .ok (.iload_n 1, 1) := by decide +kernel
theorem dX2_joined_61 : decode cX2_joined 61 = .ok (.iload_n 2, 1) := by decide +kernel
theorem dX2_joined_62 : decode cX2_joined 62 = .ok (.iadd, 1) := by decide +kernel
theorem dX2_joined_63 : decode cX2_joined 63 = .ok (.ireturn, 1) := by decide +kernel
theorem dX2_joined_64 : decode cX2_joined 64 = .ok (.iload_n 1, 1) := by decide +kernel
theorem dX2_joined_65 : decode cX2_joined 65 = .ok (.iload_n 2, 1) := by decide +kernel
theorem dX2_joined_66 : decode cX2_joined 66 = .ok (.isub, 1) := by decide +kernel
theorem dX2_joined_67 : decode cX2_joined 67 = .ok (.ireturn, 1) := by decide +kernel
theorem dX2_joined_68 : decode cX2_joined 68 = .ok (.iload_n 1, 1) := by decide +kernel
theorem dX2_joined_69 : decode cX2_joined 69 = .ok (.iload_n 2, 1) := by decide +kernel
theorem dX2_joined_70 : decode cX2_joined 70 = .ok (.if_icmp .ge 7, 3) := by decide +kernel
theorem dX2_joined_73 : decode cX2_joined 73 = .ok (.iconst 1, 1) := by decide +kernel
theorem dX2_joined_74 : decode cX2_joined 74 = .ok (.goto 4, 3) := by decide +kernel
theorem dX2_joined_77 : decode cX2_joined 77 = .ok (.iconst 0, 1) := by decide +kernel
theorem dX2_joined_78 : decode cX2_joined 78 = .ok (.invokestatic 82, 3) := by decide +kernel
theorem dX2_joined_81 : decode cX2_joined 81 = .ok (.ireturn, 1) := by decide +kernel
theorem dX2_joined_82 : decode cX2_joined 82 = .ok (.iload_n 1, 1) := by decide +kernel
theorem dX2_joined_83 : decode cX2_joined 83 = .ok (.iload_n 2, 1) := by decide +kernel
theorem dX2_joined_84 : decode cX2_joined 84 = .ok (.if_icmp .ne 7, 3) := by decide +kernel
theorem dX2_joined_87 : decode cX2_joined 87 = .ok (.iconst 1, 1) := by decide +kernel
theorem dX2_joined_88 : decode cX2_joined 88 = .ok (.goto 4, 3) := by decide +kernel
theorem dX2_joined_91 : decode cX2_joined 91 = .ok (.iconst 0, 1) := by decide +kernel
theorem dX2_joined_92 : decode cX2_joined 92 = .ok (.invokestatic 82, 3) := by decide +kernel
theorem dX2_joined_95 : decode cX2_joined 95 = .ok (.ireturn, 1) := by decide +kernel
theorem dX2_joined_96 : decode cX2_joined 96 = .ok (.iload_n 1, 1) := by decide +kernel
theorem dX2_joined_97 : decode cX2_joined 97 = .ok (.ifCond .eq 11, 3) := by decide +kernel
theorem dX2_joined_100 : decode cX2_joined 100 = .ok (.iload_n 2, 1) := by decide +kernel
theorem dX2_joined_101 : decode cX2_joined 101 = .ok (.ifCond .eq 7, 3) := by decide +kernel
theorem dX2_joined_104 : decode cX2_joined 104 = .ok (.iconst 1, 1) := by decide +kernel
theorem dX2_joined_105 : decode cX2_joined 105 = .ok (.goto 4, 3) := by decide +kernel
theorem dX2_joined_108 : decode cX2_joined 108 = .ok (.iconst 0, 1) := by decide +kernel
theorem dX2_joined_109 : decode cX2_joined 109 = .ok (.invokestatic 82, 3) := by decide +kernel
theorem dX2_joined_112 : decode cX2_joined 112 = .ok (.ireturn, 1) := by decide +kernel
theorem dX2_joined_113 : decode cX2_joined 113 = .ok (.iload_n 1, 1) := by decide +kernel
theorem dX2_joined_114 : decode cX2_joined 114 = .ok (.ifCond .ne 7, 3) := by decide +kernel
theorem dX2_joined_117 : decode cX2_joined 117 = .ok (.iload_n 2, 1) := by decide +kernel
theorem dX2_joined_118 : decode cX2_joined 118 = .ok (.ifCond .eq 7, 3) := by decide +kernel
theorem dX2_joined_121 : decode cX2_joined 121 = .ok (.iconst 1, 1) := by decide +kernel
theorem dX2_joined_122 : decode cX2_joined 122 = .ok (.goto 4, 3) := by decide +kernel
theorem dX2_joined_125 : decode cX2_joined 125 = .ok (.iconst 0, 1) := by decide +kernel
theorem dX2_joined_126 : decode cX2_joined 126 = .ok (.invokestatic 82, 3) := by decide +kernel
theorem dX2_joined_129 : decode cX2_joined 129 = .ok (.ireturn, 1) := by decide +kernel
theorem dX2_joined_130 : decode cX2_joined 130 = .ok (.iconst 0, 1) := by decide +kernel
theorem dX2_joined_131 : decode cX2_joined 131 = .ok (.ireturn, 1) := by decide +kernel
end
section
theorem dX3_init_0 : decode cX3_init 0 = .ok (.aload_n 0, 1) := by decide +kernel
theorem dX3_init_1 : decode cX3_init 1 = .ok (.invokespecial 3, 3) := by decide +kernel
theorem dX3_init_4 : decode cX3_init 4 = .ok (.aload_n 0, 1) := by decide +kernel
theorem dX3_init_5 : decode cX3_init 5 = .ok (.new 9, 3) := by decide +kernel
theorem dX3_init_8 : decode cX3_init 8 = .ok (.dup, 1) := by decide +kernel
theorem dX3_init_9 : decode cX3_init 9 = .ok (.invokespecial 11, 3) := by decide +kernel
theorem dX3_init_12 : decode cX3_init 12 = .ok (.putfield 12, 3) := by decide +kernel
theorem dX3_init_15 : decode cX3_init 15 = .ok (.aload_n 0, 1) := by decide +kernel
theorem dX3_init_16 : decode cX3_init 16 = .ok (.sipush 400, 3) := by decide +kernel
theorem dX3_init_19 : decode cX3_init 19 = .ok (.newarray .int, 2) := by decide +kernel
theorem dX3_init_21 : decode cX3_init 21 = .ok (.putfield 20, 3) := by decide +kernel
theorem dX3_init_24 : decode cX3_init 24 = .ok (.aload_n 0, 1) := by decide +kernel
theorem dX3_init_25 : decode cX3_init 25 = .ok (.iconst 0, 1) := by decide +kernel
theorem dX3_init_26 : decode cX3_init 26 = .ok (.putfield 24, 3) := by decide +kernel
theorem dX3_init_29 : decode cX3_init 29 = .ok (.aload_n 0, 1) := by decide +kernel
theorem dX3_init_30 : decode cX3_init 30 = .ok (.iconst 0, 1) := by decide +kernel
theorem dX3_init_31 : decode cX3_init 31 = .ok (.putfield 28, 3) := by decide +kernel
theorem dX3_init_34 : decode cX3_init 34 = .ok (.aload_n 0, 1) := by decide +kernel
theorem dX3_init_35 : decode cX3_init 35 = .ok (.iconst (-1), 1) := by decide +kernel
theorem dX3_init_36 : decode cX3_init 36 = .ok (.putfield 31, 3) := by decide +kernel
theorem dX3_init_39 : decode cX3_init 39 = .ok (.aload_n 0, 1) := by decide +kernel
theorem dX3_init_40 : decode cX3_init 40 = .ok (.iconst 0, 1) := by decide +kernel
theorem dX3_init_41 : decode cX3_init 41 = .ok (.putfield 34, 3) := by decide +kernel
theorem dX3_init_44 : decode cX3_init 44 = .ok (.aload_n 0, 1) := by decide +kernel
theorem dX3_init_45 : decode cX3_init 45 = .ok (.iconst (-1), 1) := by decide +kernel
theorem dX3_init_46 : decode cX3_init 46 = .ok (.putfield 37, 3) := by decide +kernel
theorem dX3_init_49 : decode cX3_init 49 = .ok (.return_, 1) := by decide +kernel
theorem dX3_parse_0 : decode cX3_parse 0 = .ok (.aload_n 0, 1) := by decide +kernel
theorem dX3_parse_1 : decode cX3_parse 1 = .ok (.getfield 12, 3) := by decide +kernel
theorem dX3_parse_4 : decode cX3_parse 4 = .ok (.aload_n 1, 1) := by decide +kernel
theorem dX3_parse_5 : decode cX3_parse 5 = .ok (.iload_n 2, 1) := by decide +kernel
theorem dX3_parse_6 : decode cX3_parse 6 = .ok (.invokevirtual 40, 3) := by decide +kernel
theorem dX3_parse_9 : decode cX3_parse 9 = .ok (.aload_n 0, 1) := by decide +kernel
theorem dX3_parse_10 : decode cX3_parse 10 = .ok (.iconst 0, 1) := by decide +kernel
theorem dX3_parse_11 : decode cX3_parse 11 = .ok (.putfield 24, 3) := by decide +kernel
theorem dX3_parse_14 : decode cX3_parse 14 = .ok (.aload_n 0, 1) := by decide +kernel
theorem dX3_parse_15 : decode cX3_parse 15 = .ok (.iconst 0, 1) := by decide +kernel
theorem dX3_parse_16 : decode cX3_parse 16 = .ok (.putfield 34, 3) := by decide +kernel
theorem dX3_parse_19 : decode cX3_parse 19 = .ok (.aload_n 0, 1) := by decide +kernel
theorem dX3_parse_20 : decode cX3_parse 20 = .ok (.iconst (-1), 1) := by decide +kernel
theorem dX3_parse_21 : decode cX3_parse 21 = .ok (.putfield 37, 3) := by decide +kernel
theorem dX3_parse_24 : decode cX3_parse 24 = .ok (.aload_n 0, 1) := by decide +kernel
theorem dX3_parse_25 : decode cX3_parse 25 = .ok (.iconst 0, 1) := by decide +kernel
theorem dX3_parse_26 : decode cX3_parse 26 = .ok (.putfield 28, 3) := by decide +kernel
theorem dX3_parse_29 : decode cX3_parse 29 = .ok (.aload_n 0, 1) := by decide +kernel
theorem dX3_parse_30 : decode cX3_parse 30 = .ok (.aload_n 0, 1) := by decide +kernel
theorem dX3_parse_31 : decode cX3_parse 31 = .ok (.getfield 12, 3) := by decide +kernel
theorem dX3_parse_34 : decode cX3_parse 34 = .ok (.getfield 44, 3) := by decide +kernel
theorem dX3_parse_37 : decode cX3_parse 37 = .ok (.aload_n 0, 1) := by decide +kernel
theorem dX3_parse_38 : decode cX3_parse 38 = .ok (.getfield 28, 3) := by decide +kernel
theorem dX3_parse_41 : decode cX3_parse 41 = .ok (.iaload, 1) := by decide +kernel
theorem dX3_parse_42 : decode cX3_parse 42 = .ok (.putfield 31, 3) := by decide +kernel
theorem dX3_parse_45 : decode cX3_parse 45 = .ok (.iconst 0, 1) := by decide +kernel
theorem dX3_parse_46 : decode cX3_parse 46 = .ok (.istore_n 3, 1) := by decide +kernel
theorem dX3_parse_47 : decode cX3_parse 47 = .ok (.iload_n 3, 1) := by decide +kernel
theorem dX3_parse_48 : decode cX3_parse 48 = .ok (.bipush 12, 2) := by decide +kernel
theorem dX3_parse_50 : decode cX3_parse 50 = .ok (.if_icmp .gt 28, 3) := by decide +kernel
theorem dX3_parse_53 : decode cX3_parse 53 = .ok (.aload_n 0, 1) := by decide +kernel
theorem dX3_parse_54 : decode cX3_parse 54 = .ok (.getfield 31, 3) := by decide +kernel
theorem dX3_parse_57 : decode cX3_parse 57 = .ok (.ifCond .eq 21, 3) := by decide +kernel
theorem dX3_parse_60 : decode cX3_parse 60 = .ok (.aload_n 0, 1) := by decide +kernel
theorem dX3_parse_61 : decode cX3_parse 61 = .ok (.getfield 34, 3) := by decide +kernel
theorem dX3_parse_64 : decode cX3_parse 64 = .ok (.ifCond .ne 14, 3) := by decide +kernel
theorem dX3_parse_67 : decode cX3_parse 67 = .ok (.aload_n 0, 1) := by decide +kernel
theorem dX3_parse_68 : decode cX3_parse 68 = .ok (.iload_n 3, 1) := by decide +kernel
theorem dX3_parse_69 : decode cX3_parse 69 = .ok (.invokevirtual 47, 3) := by decide +kernel
theorem dX3_parse_72 : decode cX3_parse 72 = .ok (.iinc 3 1, 3) := by decide +kernel
theorem dX3_parse_75 : decode cX3_parse 75 = .ok (.goto (-28), 3) := by decide +kernel
theorem dX3_parse_78 : decode cX3_parse 78 = .ok (.return_, 1) := by decide +kernel
theorem dX3_code_0 : decode cX3_code 0 = .ok (.aload_n 0, 1) := by decide +kernel
theorem dX3_code_1 : decode cX3_code 1 = .ok (.getfield 20, 3) := by decide +kernel
theorem dX3_code_4 : decode cX3_code 4 = .ok (.aload_n 0, 1) := by decide +kernel
theorem dX3_code_5 : decode cX3_code 5 = .ok (.getfield 24, 3) := by decide +kernel
theorem dX3_code_8 : decode cX3_code 8 = .ok (.invokestatic 51, 3) := by decide +kernel
theorem dX3_code_11 : decode cX3_code 11 = .ok (.areturn, 1) := by decide +kernel
theorem dX3_advance_0 : decode cX3_advance 0 = .ok (.aload_n 0, 1) := by decide +kernel
theorem dX3_advance_1 : decode cX3_advance 1 = .ok (.aload_n 0, 1) := by decide +kernel
theorem dX3_advance_2 : decode cX3_advance 2 = .ok (.getfield 28, 3) := by decide +kernel
theorem dX3_advance_5 : decode cX3_advance 5 = .ok (.iconst 1, 1) := by decide +kernel
theorem dX3_advance_6 : decode cX3_advance 6 = .ok (.iadd, 1) := by decide +kernel
theorem dX3_advance_7 : decode cX3_advance 7 = .ok (.sipush 400, 3) := by decide +kernel
theorem dX3_advance_10 : decode cX3_advance 10 = .ok (.invokestatic 57, 3) := by decide +kernel
theorem dX3_advance_13 : decode cX3_advance 13 = .ok (.putfield 28, 3) := by decide +kernel
theorem dX3_advance_16 : decode cX3_advance 16 = .ok (.aload_n 0, 1) := by decide +kernel
theorem dX3_advance_17 : decode cX3_advance 17 = .ok (.aload_n 0, 1) := by decide +kernel
theorem dX3_advance_18 : decode cX3_advance 18 = .ok (.getfield 12, 3) := by decide +kernel
theorem dX3_advance_21 : decode cX3_advance 21 = .ok (.getfield 44, 3) := by decide +kernel
theorem dX3_advance_24 : decode cX3_advance 24 = .ok (.aload_n 0, 1) := by decide +kernel
theorem dX3_advance_25 : decode cX3_advance 25 = .ok (.getfield 28, 3) := by decide +kernel
theorem dX3_advance_28 : decode cX3_advance 28 = .ok (.iaload, 1) := by decide +kernel
theorem dX3_advance_29 : decode cX3_advance 29 = .ok (.putfield 31, 3) := by decide +kernel
theorem dX3_advance_32 : decode cX3_advance 32 = .ok (.return_, 1) := by decide +kernel
theorem dX3_blame_0 : decode cX3_blame 0 = .ok (.aload_n 0, 1) := by decide +kernel
theorem dX3_blame_1 : decode cX3_blame 1 = .ok (.getfield 34, 3) := by decide +kernel
theorem dX3_blame_4 : decode cX3_blame 4 = .ok (.ifCond .ne 29, 3) := by decide +kernel
theorem dX3_blame_7 : decode cX3_blame 7 = .ok (.aload_n 0, 1) := by decide +kernel
theorem dX3_blame_8 : decode cX3_blame 8 = .ok (.iload_n 1, 1) := by decide +kernel
theorem dX3_blame_9 : decode cX3_blame 9 = .ok (.putfield 34, 3) := by decide +kernel
theorem dX3_blame_12 : decode cX3_blame 12 = .ok (.aload_n 0, 1) := by decide +kernel
theorem dX3_blame_13 : decode cX3_blame 13 = .ok (.aload_n 0, 1) := by decide +kernel
theorem dX3_blame_14 : decode cX3_blame 14 = .ok (.getfield 12, 3) := by decide +kernel
theorem dX3_blame_17 : decode cX3_blame 17 = .ok (.getfield 63, 3) := by decide +kernel
theorem dX3_blame_20 : decode cX3_blame 20 = .ok (.aload_n 0, 1) := by decide +kernel
theorem dX3_blame_21 : decode cX3_blame 21 = .ok (.getfield 28, 3) := by decide +kernel
theorem dX3_blame_24 : decode cX3_blame 24 = .ok (.iaload, 1) := by decide +kernel
theorem dX3_blame_25 : decode cX3_blame 25 = .ok (.putfield 37, 3) := by decide +kernel
theorem dX3_blame_28 : decode cX3_blame 28 = .ok (.aload_n 0, 1) := by decide +kernel
theorem dX3_blame_29 : decode cX3_blame 29 = .ok (.iconst (-1), 1) := by decide +kernel
theorem dX3_blame_30 : decode cX3_blame 30 = .ok (.putfield 31, 3) := by decide +kernel
theorem dX3_blame_33 : decode cX3_blame 33 = .ok (.return_, 1) := by decide +kernel
theorem dX3_emit_0 : decode cX3_emit 0 = .ok (.aload_n 0, 1) := by decide +kernel
theorem dX3_emit_1 : decode cX3_emit 1 = .ok (.getfield 24, 3) := by decide +kernel
theorem dX3_emit_4 : decode cX3_emit 4 = .ok (.sipush 400, 3) := by decide +kernel
theorem dX3_emit_7 : decode cX3_emit 7 = .ok (.if_icmp .ge 23, 3) := by decide +kernel
theorem dX3_emit_10 : decode cX3_emit 10 = .ok (.aload_n 0, 1) := by decide +kernel
theorem dX3_emit_11 : decode cX3_emit 11 = .ok (.getfield 20, 3) := by decide +kernel
theorem dX3_emit_14 : decode cX3_emit 14 = .ok (.aload_n 0, 1) := by decide +kernel
theorem dX3_emit_15 : decode cX3_emit 15 = .ok (.getfield 24, 3) := by decide +kernel
theorem dX3_emit_18 : decode cX3_emit 18 = .ok (.iload_n 1, 1) := by decide +kernel
theorem dX3_emit_19 : decode cX3_emit 19 = .ok (.iastore, 1) := by decide +kernel
theorem dX3_emit_20 : decode cX3_emit 20 = .ok (.aload_n 0, 1) := by decide +kernel
theorem dX3_emit_21 : decode cX3_emit 21 = .ok (.dup, 1) := by decide +kernel
theorem dX3_emit_22 : decode cX3_emit 22 = .ok (.getfield 24, 3) := by decide +kernel
theorem dX3_emit_25 : decode cX3_emit 25 = .ok (.iconst 1, 1) := by decide +kernel
theorem dX3_emit_26 : decode cX3_emit 26 = .ok (.iadd, 1) := by decide +kernel
theorem dX3_emit_27 : decode cX3_emit 27 = .ok (.putfield 24, 3) := by decide +kernel
theorem dX3_emit_30 : decode cX3_emit 30 = .ok (.return_, 1) := by decide +kernel
theorem dX3_readRule_0 : decode cX3_readRule 0 = .ok (.aload_n 0, 1) := by decide +kernel
theorem dX3_readRule_1 : decode cX3_readRule 1 = .ok (.getfield 31, 3) := by decide +kernel
theorem dX3_readRule_4 : decode cX3_readRule 4 = .ok (.istore_n 2, 1) := by decide +kernel
theorem dX3_readRule_5 : decode cX3_readRule 5 = .ok (.iload_n 2, 1) := by decide +kernel
theorem dX3_readRule_6 : decode cX3_readRule 6 = .ok (.iconst 4, 1) := by decide +kernel
theorem dX3_readRule_7 : decode cX3_readRule 7 = .ok (.if_icmp .eq 20, 3) := by decide +kernel
theorem dX3_readRule_10 : decode cX3_readRule 10 = .ok (.iload_n 2, 1) := by decide +kernel
theorem dX3_readRule_11 : decode cX3_readRule 11 = .ok (.iconst 5, 1) := by decide +kernel
theorem dX3_readRule_12 : decode cX3_readRule 12 = .ok (.if_icmp .eq 15, 3) := by decide +kernel
theorem dX3_readRule_15 : decode cX3_readRule 15 = .ok (.iload_n 2, 1) := by decide +kernel
theorem dX3_readRule_16 : decode cX3_readRule 16 = .ok (.bipush 6, 2) := by decide +kernel
theorem dX3_readRule_18 : decode cX3_readRule 18 = .ok (.if_icmp .eq 9, 3) := by decide +kernel
theorem dX3_readRule_21 : decode cX3_readRule 21 = .ok (.aload_n 0, 1) := by decide +kernel
theorem dX3_readRule_22 : decode cX3_readRule 22 = .ok (.iconst 1, 1) := by decide +kernel
theorem dX3_readRule_23 : decode cX3_readRule 23 = .ok (.invokevirtual 66, 3) := by decide +kernel
theorem dX3_readRule_26 : decode cX3_readRule 26 = .ok (.return_, 1) := by decide +kernel
theorem dX3_readRule_27 : decode cX3_readRule 27 = .ok (.iload_n 1, 1) := by decide +kernel
theorem dX3_readRule_28 : decode cX3_readRule 28 = .ok (.bipush 12, 2) := by decide +kernel
theorem dX3_readRule_30 : decode cX3_readRule 30 = .ok (.if_icmp .lt 9, 3) := by decide +kernel
theorem dX3_readRule_33 : decode cX3_readRule 33 = .ok (.aload_n 0, 1) := by decide +kernel
theorem dX3_readRule_34 : decode cX3_readRule 34 = .ok (.iconst 2, 1) := by decide +kernel
theorem dX3_readRule_35 : decode cX3_readRule 35 = .ok (.invokevirtual 66, 3) := by decide +kernel
theorem dX3_readRule_38 : decode cX3_readRule 38 = .ok (.return_, 1) := by decide +kernel
theorem dX3_readRule_39 : decode cX3_readRule 39 = .ok (.aload_n 0, 1) := by decide +kernel
theorem dX3_readRule_40 : decode cX3_readRule 40 = .ok (.invokevirtual 69, 3) := by decide +kernel
theorem dX3_readRule_43 : decode cX3_readRule 43 = .ok (.aload_n 0, 1) := by decide +kernel
theorem dX3_readRule_44 : decode cX3_readRule 44 = .ok (.iconst 0, 1) := by decide +kernel
theorem dX3_readRule_45 : decode cX3_readRule 45 = .ok (.invokevirtual 72, 3) := by decide +kernel
theorem dX3_readRule_48 : decode cX3_readRule 48 = .ok (.aload_n 0, 1) := by decide +kernel
theorem dX3_readRule_49 : decode cX3_readRule 49 = .ok (.getfield 31, 3) := by decide +kernel
theorem dX3_readRule_52 : decode cX3_readRule 52 = .ok (.bipush 59, 2) := by decide +kernel
theorem dX3_readRule_54 : decode cX3_readRule 54 = .ok (.if_icmp .eq 9, 3) := by decide +kernel
theorem dX3_readRule_57 : decode cX3_readRule 57 = .ok (.aload_n 0, 1) := by decide +kernel
theorem dX3_readRule_58 : decode cX3_readRule 58 = .ok (.iconst 1, 1) := by decide +kernel
theorem dX3_readRule_59 : decode cX3_readRule 59 = .ok (.invokevirtual 66, 3) := by decide +kernel
theorem dX3_readRule_62 : decode cX3_readRule 62 = .ok (.return_, 1) := by decide +kernel
theorem dX3_readRule_63 : decode cX3_readRule 63 = .ok (.aload_n 0, 1) := by decide +kernel
theorem dX3_readRule_64 : decode cX3_readRule 64 = .ok (.invokevirtual 69, 3) := by decide +kernel
theorem dX3_readRule_67 : decode cX3_readRule 67 = .ok (.aload_n 0, 1) := by decide +kernel
theorem dX3_readRule_68 : decode cX3_readRule 68 = .ok (.iload_n 2, 1) := by decide +kernel
theorem dX3_readRule_69 : decode cX3_readRule 69 = .ok (.invokevirtual 75, 3) := by decide +kernel
theorem dX3_readRule_72 : decode cX3_readRule 72 = .ok (.return_, 1) := by decide +kernel
theorem dX3_readExpression_0 : decode cX3_readExpression 0 = .ok (.iload_n 1, 1) := by decide +kernel
theorem dX3_readExpression_1 : decode cX3_readExpression 1 = .ok (.iconst 5, 1) := by decide +kernel
theorem dX3_readExpression_2 : decode cX3_readExpression 2 = .ok (.if_icmp .le 16, 3) := by decide +kernel
theorem dX3_readExpression_5 : decode cX3_readExpression 5 = .ok (.aload_n 0, 1) := by decide +kernel
theorem dX3_readExpression_6 : decode cX3_readExpression 6 = .ok (.invokevirtual 78, 3) := by decide +kernel
theorem dX3_readExpression_9 : decode cX3_readExpression 9 = .ok (.ifCond .eq 9, 3) := by decide +kernel
theorem dX3_readExpression_12 : decode cX3_readExpression 12 = .ok (.aload_n 0, 1) := by decide +kernel
theorem dX3_readExpression_13 : decode cX3_readExpression 13 = .ok (.iconst 2, 1) := by decide +kernel
theorem dX3_readExpression_14 : decode cX3_readExpression 14 = .ok (.invokevirtual 66, 3) := by decide +kernel
theorem dX3_readExpression_17 : decode cX3_readExpression 17 = .ok (.return_, 1) := by decide +kernel
theorem dX3_readExpression_18 : decode cX3_readExpression 18 = .ok (.aload_n 0, 1) := by decide +kernel
theorem dX3_readExpression_19 : decode cX3_readExpression 19 = .ok (.iload_n 1, 1) := by decide +kernel
theorem dX3_readExpression_20 : decode cX3_readExpression 20 = .ok (.invokevirtual 82, 3) := by decide +kernel
theorem dX3_readExpression_23 : decode cX3_readExpression 23 = .ok (.iconst 0, 1) := by decide +kernel
theorem dX3_readExpression_24 : decode cX3_readExpression 24 = .ok (.istore_n 2, 1) := by decide +kernel
theorem dX3_readExpression_25 : decode cX3_readExpression 25 = .ok (.iload_n 2, 1) := by decide +kernel
theorem dX3_readExpression_26 : decode cX3_readExpression 26 = .ok (.sipush 400, 3) := by decide +kernel
theorem dX3_readExpression_29 : decode cX3_readExpression 29 = .ok (.if_icmp .ge 46, 3) := by decide +kernel
theorem dX3_readExpression_32 : decode cX3_readExpression 32 = .ok (.aload_n 0, 1) := by decide +kernel
theorem dX3_readExpression_33 : decode cX3_readExpression 33 = .ok (.getfield 31, 3) := by decide +kernel
theorem dX3_readExpression_36 : decode cX3_readExpression 36 = .ok (.bipush 7, 2) := by decide +kernel
theorem dX3_readExpression_38 : decode cX3_readExpression 38 = .ok (.if_icmp .eq 12, 3) := by decide +kernel
theorem dX3_readExpression_41 : decode cX3_readExpression 41 = .ok (.aload_n 0, 1) := by decide +kernel
theorem dX3_readExpression_42 : decode cX3_readExpression 42 = .ok (.getfield 31, 3) := by decide +kernel
theorem dX3_readExpression_45 : decode cX3_readExpression 45 = .ok (.bipush 8, 2) := by decide +kernel
theorem dX3_readExpression_47 : decode cX3_readExpression 47 = .ok (.if_icmp .ne 28, 3) := by decide +kernel
theorem dX3_readExpression_50 : decode cX3_readExpression 50 = .ok (.aload_n 0, 1) := by decide +kernel
theorem dX3_readExpression_51 : decode cX3_readExpression 51 = .ok (.getfield 31, 3) := by decide +kernel
theorem dX3_readExpression_54 : decode cX3_readExpression 54 = .ok (.istore_n 3, 1) := by decide +kernel
theorem dX3_readExpression_55 : decode cX3_readExpression 55 = .ok (.aload_n 0, 1) := by decide +kernel
theorem dX3_readExpression_56 : decode cX3_readExpression 56 = .ok (.invokevirtual 69, 3) := by decide +kernel
theorem dX3_readExpression_59 : decode cX3_readExpression 59 = .ok (.aload_n 0, 1) := by decide +kernel
theorem dX3_readExpression_60 : decode cX3_readExpression 60 = .ok (.iload_n 1, 1) := by decide +kernel
theorem dX3_readExpression_61 : decode cX3_readExpression 61 = .ok (.invokevirtual 82, 3) := by decide +kernel
theorem dX3_readExpression_64 : decode cX3_readExpression 64 = .ok (.aload_n 0, 1) := by decide +kernel
theorem dX3_readExpression_65 : decode cX3_readExpression 65 = .ok (.iload_n 3, 1) := by decide +kernel
theorem dX3_readExpression_66 : decode cX3_readExpression 66 = .ok (.invokevirtual 75, 3) := by decide +kernel
theorem dX3_readExpression_69 : decode cX3_readExpression 69 = .ok (.iinc 2 1, 3) := by decide +kernel
theorem dX3_readExpression_72 : decode cX3_readExpression 72 = .ok (.goto (-47), 3) := by decide +kernel
theorem dX3_readExpression_75 : decode cX3_readExpression 75 = .ok (.return_, 1) := by decide +kernel
theorem dX3_canBeginExpression_0 : decode cX3_canBeginExpression 0 = .ok (.aload_n 0, 1) := by decide +kernel
theorem dX3_canBeginExpression_1 : decode cX3_canBeginExpression 1 = .ok (.getfield 31, 3) := by decide +kernel
theorem dX3_canBeginExpression_4 : decode cX3_canBeginExpression 4 = .ok (.bipush 40, 2) := by decide +kernel
theorem dX3_canBeginExpression_6 : decode cX3_canBeginExpression 6 = .ok (.if_icmp .eq 32, 3) := by decide +kernel
theorem dX3_canBeginExpression_9 : decode cX3_canBeginExpression 9 = .ok (.aload_n 0, 1) := by decide +kernel
theorem dX3_canBeginExpression_10 : decode cX3_canBeginExpression 10 = .ok (.getfield 31, 3) := by decide +kernel
theorem dX3_canBeginExpression_13 : decode cX3_canBeginExpression 13 = .ok (.bipush 9, 2) := by decide +kernel
theorem dX3_canBeginExpression_15 : decode cX3_canBeginExpression 15 = .ok (.if_icmp .eq 23, 3) := by decide +kernel
theorem dX3_canBeginExpression_18 : decode cX3_canBeginExpression 18 = .ok (.aload_n 0, 1) := by decide +kernel
theorem dX3_canBeginExpression_19 : decode cX3_canBeginExpression 19 = .ok (.getfield 31, 3) := by decide +kernel
theorem dX3_canBeginExpression_22 : decode cX3_canBeginExpression 22 = .ok (.invokestatic 85, 3) := by decide +kernel
theorem dX3_canBeginExpression_25 : decode cX3_canBeginExpression 25 = .ok (.ifCond .ne 13, 3) := by decide +kernel
theorem dX3_canBeginExpression_28 : decode cX3_canBeginExpression 28 = .ok (.aload_n 0, 1) := by decide +kernel
theorem dX3_canBeginExpression_29 : decode cX3_canBeginExpression 29 = .ok (.getfield 31, 3) := by decide +kernel
theorem dX3_canBeginExpression_32 : decode cX3_canBeginExpression 32 = .ok (.invokestatic 89, 3) := by decide +kernel
theorem dX3_canBeginExpression_35 : decode cX3_canBeginExpression 35 = .ok (.ifCond .eq 7, 3) := by decide +kernel
theorem dX3_canBeginExpression_38 : decode cX3_canBeginExpression 38 = .ok (.iconst 1, 1) := by decide +kernel
theorem dX3_canBeginExpression_39 : decode cX3_canBeginExpression 39 = .ok (.goto 4, 3) := by decide +kernel
theorem dX3_canBeginExpression_42 : decode cX3_canBeginExpression 42 = .ok (.iconst 0, 1) := by decide +kernel
theorem dX3_canBeginExpression_43 : decode cX3_canBeginExpression 43 = .ok (.ireturn, 1) := by decide +kernel
theorem dX3_readTest_0 : decode cX3_readTest 0 = .ok (.aload_n 0, 1) := by decide +kernel
theorem dX3_readTest_1 : decode cX3_readTest 1 = .ok (.getfield 31, 3) := by decide +kernel
theorem dX3_readTest_4 : decode cX3_readTest 4 = .ok (.bipush 9, 2) := by decide +kernel
theorem dX3_readTest_6 : decode cX3_readTest 6 = .ok (.if_icmp .ne 7, 3) := by decide +kernel
theorem dX3_readTest_9 : decode cX3_readTest 9 = .ok (.iconst 1, 1) := by decide +kernel
theorem dX3_readTest_10 : decode cX3_readTest 10 = .ok (.goto 4, 3) := by decide +kernel
theorem dX3_readTest_13 : decode cX3_readTest 13 = .ok (.iconst 0, 1) := by decide +kernel
theorem dX3_readTest_14 : decode cX3_readTest 14 = .ok (.istore_n 2, 1) := by decide +kernel
theorem dX3_readTest_15 : decode cX3_readTest 15 = .ok (.iload_n 2, 1) := by decide +kernel
theorem dX3_readTest_16 : decode cX3_readTest 16 = .ok (.ifCond .eq 7, 3) := by decide +kernel
theorem dX3_readTest_19 : decode cX3_readTest 19 = .ok (.aload_n 0, 1) := by decide +kernel
theorem dX3_readTest_20 : decode cX3_readTest 20 = .ok (.invokevirtual 69, 3) := by decide +kernel
theorem dX3_readTest_23 : decode cX3_readTest 23 = .ok (.aload_n 0, 1) := by decide +kernel
theorem dX3_readTest_24 : decode cX3_readTest 24 = .ok (.iload_n 1, 1) := by decide +kernel
theorem dX3_readTest_25 : decode cX3_readTest 25 = .ok (.invokevirtual 92, 3) := by decide +kernel
theorem dX3_readTest_28 : decode cX3_readTest 28 = .ok (.aload_n 0, 1) := by decide +kernel
theorem dX3_readTest_29 : decode cX3_readTest 29 = .ok (.getfield 31, 3) := by decide +kernel
theorem dX3_readTest_32 : decode cX3_readTest 32 = .ok (.bipush 60, 2) := by decide +kernel
theorem dX3_readTest_34 : decode cX3_readTest 34 = .ok (.if_icmp .eq 12, 3) := by decide +kernel
theorem dX3_readTest_37 : decode cX3_readTest 37 = .ok (.aload_n 0, 1) := by decide +kernel
theorem dX3_readTest_38 : decode cX3_readTest 38 = .ok (.getfield 31, 3) := by decide +kernel
theorem dX3_readTest_41 : decode cX3_readTest 41 = .ok (.bipush 61, 2) := by decide +kernel
theorem dX3_readTest_43 : decode cX3_readTest 43 = .ok (.if_icmp .ne 22, 3) := by decide +kernel
theorem dX3_readTest_46 : decode cX3_readTest 46 = .ok (.aload_n 0, 1) := by decide +kernel
theorem dX3_readTest_47 : decode cX3_readTest 47 = .ok (.getfield 31, 3) := by decide +kernel
theorem dX3_readTest_50 : decode cX3_readTest 50 = .ok (.istore_n 3, 1) := by decide +kernel
theorem dX3_readTest_51 : decode cX3_readTest 51 = .ok (.aload_n 0, 1) := by decide +kernel
theorem dX3_readTest_52 : decode cX3_readTest 52 = .ok (.invokevirtual 69, 3) := by decide +kernel
theorem dX3_readTest_55 : decode cX3_readTest 55 = .ok (.aload_n 0, 1) := by decide +kernel
theorem dX3_readTest_56 : decode cX3_readTest 56 = .ok (.iload_n 1, 1) := by decide +kernel
theorem dX3_readTest_57 : decode cX3_readTest 57 = .ok (.invokevirtual 92, 3) := by decide +kernel
theorem dX3_readTest_60 : decode cX3_readTest 60 = .ok (.aload_n 0, 1) := by decide +kernel
theorem dX3_readTest_61 : decode cX3_readTest 61 = .ok (.iload_n 3, 1) := by decide +kernel
theorem dX3_readTest_62 : decode cX3_readTest 62 = .ok (.invokevirtual 75, 3) := by decide +kernel
theorem dX3_readTest_65 : decode cX3_readTest 65 = .ok (.iload_n 2, 1) := by decide +kernel
theorem dX3_readTest_66 : decode cX3_readTest 66 = .ok (.ifCond .eq 9, 3) := by decide +kernel
theorem dX3_readTest_69 : decode cX3_readTest 69 = .ok (.aload_n 0, 1) := by decide +kernel
theorem dX3_readTest_70 : decode cX3_readTest 70 = .ok (.bipush 9, 2) := by decide +kernel
theorem dX3_readTest_72 : decode cX3_readTest 72 = .ok (.invokevirtual 75, 3) := by decide +kernel
theorem dX3_readTest_75 : decode cX3_readTest 75 = .ok (.return_, 1) := by decide +kernel
theorem dX3_readSum_0 : decode cX3_readSum 0 = .ok (.aload_n 0, 1) := by decide +kernel
theorem dX3_readSum_1 : decode cX3_readSum 1 = .ok (.iload_n 1, 1) := by decide +kernel
theorem dX3_readSum_2 : decode cX3_readSum 2 = .ok (.invokevirtual 95, 3) := by decide +kernel
theorem dX3_readSum_5 : decode cX3_readSum 5 = .ok (.iconst 0, 1) := by decide +kernel
theorem dX3_readSum_6 : decode cX3_readSum 6 = .ok (.istore_n 2, 1) := by decide +kernel
theorem dX3_readSum_7 : decode cX3_readSum 7 = .ok (.iload_n 2, 1) := by decide +kernel
theorem dX3_readSum_8 : decode cX3_readSum 8 = .ok (.sipush 400, 3) := by decide +kernel
theorem dX3_readSum_11 : decode cX3_readSum 11 = .ok (.if_icmp .ge 46, 3) := by decide +kernel
theorem dX3_readSum_14 : decode cX3_readSum 14 = .ok (.aload_n 0, 1) := by decide +kernel
theorem dX3_readSum_15 : decode cX3_readSum 15 = .ok (.getfield 31, 3) := by decide +kernel
theorem dX3_readSum_18 : decode cX3_readSum 18 = .ok (.bipush 43, 2) := by decide +kernel
theorem dX3_readSum_20 : decode cX3_readSum 20 = .ok (.if_icmp .eq 12, 3) := by decide +kernel
theorem dX3_readSum_23 : decode cX3_readSum 23 = .ok (.aload_n 0, 1) := by decide +kernel
theorem dX3_readSum_24 : decode cX3_readSum 24 = .ok (.getfield 31, 3) := by decide +kernel
theorem dX3_readSum_27 : decode cX3_readSum 27 = .ok (.bipush 45, 2) := by decide +kernel
theorem dX3_readSum_29 : decode cX3_readSum 29 = .ok (.if_icmp .ne 28, 3) := by decide +kernel
theorem dX3_readSum_32 : decode cX3_readSum 32 = .ok (.aload_n 0, 1) := by decide +kernel
theorem dX3_readSum_33 : decode cX3_readSum 33 = .ok (.getfield 31, 3) := by decide +kernel
theorem dX3_readSum_36 : decode cX3_readSum 36 = .ok (.istore_n 3, 1) := by decide +kernel
theorem dX3_readSum_37 : decode cX3_readSum 37 = .ok (.aload_n 0, 1) := by decide +kernel
theorem dX3_readSum_38 : decode cX3_readSum 38 = .ok (.invokevirtual 69, 3) := by decide +kernel
theorem dX3_readSum_41 : decode cX3_readSum 41 = .ok (.aload_n 0, 1) := by decide +kernel
theorem dX3_readSum_42 : decode cX3_readSum 42 = .ok (.iload_n 1, 1) := by decide +kernel
theorem dX3_readSum_43 : decode cX3_readSum 43 = .ok (.invokevirtual 95, 3) := by decide +kernel
theorem dX3_readSum_46 : decode cX3_readSum 46 = .ok (.aload_n 0, 1) := by decide +kernel
theorem dX3_readSum_47 : decode cX3_readSum 47 = .ok (.iload_n 3, 1) := by decide +kernel
theorem dX3_readSum_48 : decode cX3_readSum 48 = .ok (.invokevirtual 75, 3) := by decide +kernel
theorem dX3_readSum_51 : decode cX3_readSum 51 = .ok (.iinc 2 1, 3) := by decide +kernel
theorem dX3_readSum_54 : decode cX3_readSum 54 = .ok (.goto (-47), 3) := by decide +kernel
theorem dX3_readSum_57 : decode cX3_readSum 57 = .ok (.return_, 1) := by decide +kernel
theorem dX3_readPart_0 : decode cX3_readPart 0 = .ok (.aload_n 0, 1) := by decide +kernel
theorem dX3_readPart_1 : decode cX3_readPart 1 = .ok (.getfield 31, 3) := by decide +kernel
theorem dX3_readPart_4 : decode cX3_readPart 4 = .ok (.invokestatic 85, 3) := by decide +kernel
theorem dX3_readPart_7 : decode cX3_readPart 7 = .ok (.ifCond .ne 13, 3) := by decide +kernel
theorem dX3_readPart_10 : decode cX3_readPart 10 = .ok (.aload_n 0, 1) := by decide +kernel
theorem dX3_readPart_11 : decode cX3_readPart 11 = .ok (.getfield 31, 3) := by decide +kernel
theorem dX3_readPart_14 : decode cX3_readPart 14 = .ok (.invokestatic 89, 3) := by decide +kernel
theorem dX3_readPart_17 : decode cX3_readPart 17 = .ok (.ifCond .eq 18, 3) := by decide +kernel
theorem dX3_readPart_20 : decode cX3_readPart 20 = .ok (.aload_n 0, 1) := by decide +kernel
theorem dX3_readPart_21 : decode cX3_readPart 21 = .ok (.aload_n 0, 1) := by decide +kernel
theorem dX3_readPart_22 : decode cX3_readPart 22 = .ok (.getfield 31, 3) := by decide +kernel
theorem dX3_readPart_25 : decode cX3_readPart 25 = .ok (.invokevirtual 75, 3) := by decide +kernel
theorem dX3_readPart_28 : decode cX3_readPart 28 = .ok (.aload_n 0, 1) := by decide +kernel
theorem dX3_readPart_29 : decode cX3_readPart 29 = .ok (.invokevirtual 69, 3) := by decide +kernel
theorem dX3_readPart_32 : decode cX3_readPart 32 = .ok (.goto 82, 3) := by decide +kernel
theorem dX3_readPart_35 : decode cX3_readPart 35 = .ok (.aload_n 0, 1) := by decide +kernel
theorem dX3_readPart_36 : decode cX3_readPart 36 = .ok (.getfield 31, 3) := by decide +kernel
theorem dX3_readPart_39 : decode cX3_readPart 39 = .ok (.bipush 40, 2) := by decide +kernel
theorem dX3_readPart_41 : decode cX3_readPart 41 = .ok (.if_icmp .ne 38, 3) := by decide +kernel
theorem dX3_readPart_44 : decode cX3_readPart 44 = .ok (.aload_n 0, 1) := by decide +kernel
theorem dX3_readPart_45 : decode cX3_readPart 45 = .ok (.invokevirtual 69, 3) := by decide +kernel
theorem dX3_readPart_48 : decode cX3_readPart 48 = .ok (.aload_n 0, 1) := by decide +kernel
theorem dX3_readPart_49 : decode cX3_readPart 49 = .ok (.iload_n 1, 1) := by decide +kernel
theorem dX3_readPart_50 : decode cX3_readPart 50 = .ok (.iconst 1, 1) := by decide +kernel
theorem dX3_readPart_51 : decode cX3_readPart 51 = .ok (.iadd, 1) := by decide +kernel
theorem dX3_readPart_52 : decode cX3_readPart 52 = .ok (.invokevirtual 72, 3) := by decide +kernel
theorem dX3_readPart_55 : decode cX3_readPart 55 = .ok (.aload_n 0, 1) := by decide +kernel
theorem dX3_readPart_56 : decode cX3_readPart 56 = .ok (.getfield 31, 3) := by decide +kernel
theorem dX3_readPart_59 : decode cX3_readPart 59 = .ok (.bipush 41, 2) := by decide +kernel
theorem dX3_readPart_61 : decode cX3_readPart 61 = .ok (.if_icmp .ne 10, 3) := by decide +kernel
theorem dX3_readPart_64 : decode cX3_readPart 64 = .ok (.aload_n 0, 1) := by decide +kernel
theorem dX3_readPart_65 : decode cX3_readPart 65 = .ok (.invokevirtual 69, 3) := by decide +kernel
theorem dX3_readPart_68 : decode cX3_readPart 68 = .ok (.goto 46, 3) := by decide +kernel
theorem dX3_readPart_71 : decode cX3_readPart 71 = .ok (.aload_n 0, 1) := by decide +kernel
theorem dX3_readPart_72 : decode cX3_readPart 72 = .ok (.iconst 1, 1) := by decide +kernel
theorem dX3_readPart_73 : decode cX3_readPart 73 = .ok (.invokevirtual 66, 3) := by decide +kernel
theorem dX3_readPart_76 : decode cX3_readPart 76 = .ok (.goto 38, 3) := by decide +kernel
theorem dX3_readPart_79 : decode cX3_readPart 79 = .ok (.aload_n 0, 1) := by decide +kernel
theorem dX3_readPart_80 : decode cX3_readPart 80 = .ok (.getfield 31, 3) := by decide +kernel
theorem dX3_readPart_83 : decode cX3_readPart 83 = .ok (.iconst 2, 1) := by decide +kernel
theorem dX3_readPart_84 : decode cX3_readPart 84 = .ok (.if_icmp .ne 11, 3) := by decide +kernel
theorem dX3_readPart_87 : decode cX3_readPart 87 = .ok (.aload_n 0, 1) := by decide +kernel
theorem dX3_readPart_88 : decode cX3_readPart 88 = .ok (.iconst 2, 1) := by decide +kernel
theorem dX3_readPart_89 : decode cX3_readPart 89 = .ok (.invokevirtual 66, 3) := by decide +kernel
theorem dX3_readPart_92 : decode cX3_readPart 92 = .ok (.goto 22, 3) := by decide +kernel
theorem dX3_readPart_95 : decode cX3_readPart 95 = .ok (.aload_n 0, 1) := by decide +kernel
theorem dX3_readPart_96 : decode cX3_readPart 96 = .ok (.aload_n 0, 1) := by decide +kernel
theorem dX3_readPart_97 : decode cX3_readPart 97 = .ok (.getfield 31, 3) := by decide +kernel
theorem dX3_readPart_100 : decode cX3_readPart 100 = .ok (.invokestatic 98, 3) := by decide +kernel
theorem dX3_readPart_103 : decode cX3_readPart 103 = .ok (.ifCond .eq 7, 3) := by decide +kernel
theorem dX3_readPart_106 : decode cX3_readPart 106 = .ok (.iconst 3, 1) := by decide +kernel
theorem dX3_readPart_107 : decode cX3_readPart 107 = .ok (.goto 4, 3) := by decide +kernel
theorem dX3_readPart_110 : decode cX3_readPart 110 = .ok (.iconst 1, 1) := by decide +kernel
theorem dX3_readPart_111 : decode cX3_readPart 111 = .ok (.invokevirtual 66, 3) := by decide +kernel
theorem dX3_readPart_114 : decode cX3_readPart 114 = .ok (.return_, 1) := by decide +kernel
end
section
theorem dX4_init_0 : decode cX4_init 0 = .ok (.aload_n 0, 1) := by decide +kernel
theorem dX4_init_1 : decode cX4_init 1 = .ok (.invokespecial 3, 3) := by decide +kernel
theorem dX4_init_4 : decode cX4_init 4 = .ok (.aload_n 0, 1) := by decide +kernel
theorem dX4_init_5 : decode cX4_init 5 = .ok (.bipush 60, 2) := by decide +kernel
theorem dX4_init_7 : decode cX4_init 7 = .ok (.newarray .boolean, 2) := by decide +kernel
theorem dX4_init_9 : decode cX4_init 9 = .ok (.putfield 11, 3) := by decide +kernel
theorem dX4_init_12 : decode cX4_init 12 = .ok (.aload_n 0, 1) := by decide +kernel
theorem dX4_init_13 : decode cX4_init 13 = .ok (.bipush 60, 2) := by decide +kernel
theorem dX4_init_15 : decode cX4_init 15 = .ok (.newarray .int, 2) := by decide +kernel
theorem dX4_init_17 : decode cX4_init 17 = .ok (.putfield 15, 3) := by decide +kernel
theorem dX4_init_20 : decode cX4_init 20 = .ok (.aload_n 0, 1) := by decide +kernel
theorem dX4_init_21 : decode cX4_init 21 = .ok (.bipush 60, 2) := by decide +kernel
theorem dX4_init_23 : decode cX4_init 23 = .ok (.newarray .int, 2) := by decide +kernel
theorem dX4_init_25 : decode cX4_init 25 = .ok (.putfield 19, 3) := by decide +kernel
theorem dX4_init_28 : decode cX4_init 28 = .ok (.aload_n 0, 1) := by decide +kernel
theorem dX4_init_29 : decode cX4_init 29 = .ok (.bipush 60, 2) := by decide +kernel
theorem dX4_init_31 : decode cX4_init 31 = .ok (.newarray .int, 2) := by decide +kernel
theorem dX4_init_33 : decode cX4_init 33 = .ok (.putfield 22, 3) := by decide +kernel
theorem dX4_init_36 : decode cX4_init 36 = .ok (.aload_n 0, 1) := by decide +kernel
theorem dX4_init_37 : decode cX4_init 37 = .ok (.bipush 60, 2) := by decide +kernel
theorem dX4_init_39 : decode cX4_init 39 = .ok (.newarray .int, 2) := by decide +kernel
theorem dX4_init_41 : decode cX4_init 41 = .ok (.putfield 25, 3) := by decide +kernel
theorem dX4_init_44 : decode cX4_init 44 = .ok (.aload_n 0, 1) := by decide +kernel
theorem dX4_init_45 : decode cX4_init 45 = .ok (.bipush 60, 2) := by decide +kernel
theorem dX4_init_47 : decode cX4_init 47 = .ok (.newarray .int, 2) := by decide +kernel
theorem dX4_init_49 : decode cX4_init 49 = .ok (.putfield 28, 3) := by decide +kernel
theorem dX4_init_52 : decode cX4_init 52 = .ok (.aload_n 0, 1) := by decide +kernel
theorem dX4_init_53 : decode cX4_init 53 = .ok (.bipush 60, 2) := by decide +kernel
theorem dX4_init_55 : decode cX4_init 55 = .ok (.newarray .int, 2) := by decide +kernel
theorem dX4_init_57 : decode cX4_init 57 = .ok (.putfield 31, 3) := by decide +kernel
theorem dX4_init_60 : decode cX4_init 60 = .ok (.aload_n 0, 1) := by decide +kernel
theorem dX4_init_61 : decode cX4_init 61 = .ok (.bipush 60, 2) := by decide +kernel
theorem dX4_init_63 : decode cX4_init 63 = .ok (.newarray .int, 2) := by decide +kernel
theorem dX4_init_65 : decode cX4_init 65 = .ok (.putfield 34, 3) := by decide +kernel
theorem dX4_init_68 : decode cX4_init 68 = .ok (.aload_n 0, 1) := by decide +kernel
theorem dX4_init_69 : decode cX4_init 69 = .ok (.iconst 0, 1) := by decide +kernel
theorem dX4_init_70 : decode cX4_init 70 = .ok (.putfield 37, 3) := by decide +kernel
theorem dX4_init_73 : decode cX4_init 73 = .ok (.return_, 1) := by decide +kernel
theorem dX4_isIn_0 : decode cX4_isIn 0 = .ok (.lload_n 0, 1) := by decide +kernel
theorem dX4_isIn_1 : decode cX4_isIn 1 = .ok (.iload_n 2, 1) := by decide +kernel
theorem dX4_isIn_2 : decode cX4_isIn 2 = .ok (.lushr, 1) := by decide +kernel
theorem dX4_isIn_3 : decode cX4_isIn 3 = .ok (.lconst 1, 1) := by decide +kernel
theorem dX4_isIn_4 : decode cX4_isIn 4 = .ok (.land, 1) := by decide +kernel
theorem dX4_isIn_5 : decode cX4_isIn 5 = .ok (.lconst 0, 1) := by decide +kernel
theorem dX4_isIn_6 : decode cX4_isIn 6 = .ok (.lcmp, 1) := by decide +kernel
theorem dX4_isIn_7 : decode cX4_isIn 7 = .ok (.ifCond .eq 7, 3) := by decide +kernel
theorem dX4_isIn_10 : decode cX4_isIn 10 = .ok (.iconst 1, 1) := by decide +kernel
theorem dX4_isIn_11 : decode cX4_isIn 11 = .ok (.goto 4, 3) := by decide +kernel
theorem dX4_isIn_14 : decode cX4_isIn 14 = .ok (.iconst 0, 1) := by decide +kernel
theorem dX4_isIn_15 : decode cX4_isIn 15 = .ok (.ireturn, 1) := by decide +kernel
theorem dX4_has_0 : decode cX4_has 0 = .ok (.iload_n 1, 1) := by decide +kernel
theorem dX4_has_1 : decode cX4_has 1 = .ok (.ifCond .lt 15, 3) := by decide +kernel
theorem dX4_has_4 : decode cX4_has 4 = .ok (.iload_n 1, 1) := by decide +kernel
theorem dX4_has_5 : decode cX4_has 5 = .ok (.aload_n 0, 1) := by decide +kernel
theorem dX4_has_6 : decode cX4_has 6 = .ok (.getfield 37, 3) := by decide +kernel
theorem dX4_has_9 : decode cX4_has 9 = .ok (.if_icmp .ge 7, 3) := by decide +kernel
theorem dX4_has_12 : decode cX4_has 12 = .ok (.iconst 1, 1) := by decide +kernel
theorem dX4_has_13 : decode cX4_has 13 = .ok (.goto 4, 3) := by decide +kernel
theorem dX4_has_16 : decode cX4_has 16 = .ok (.iconst 0, 1) := by decide +kernel
theorem dX4_has_17 : decode cX4_has 17 = .ok (.ireturn, 1) := by decide +kernel
theorem dX4_add_0 : decode cX4_add 0 = .ok (.aload_n 0, 1) := by decide +kernel
theorem dX4_add_1 : decode cX4_add 1 = .ok (.getfield 37, 3) := by decide +kernel
theorem dX4_add_4 : decode cX4_add 4 = .ok (.bipush 60, 2) := by decide +kernel
theorem dX4_add_6 : decode cX4_add 6 = .ok (.if_icmp .ge 18, 3) := by decide +kernel
theorem dX4_add_9 : decode cX4_add 9 = .ok (.iload_n 2, 1) := by decide +kernel
theorem dX4_add_10 : decode cX4_add 10 = .ok (.invokestatic 41, 3) := by decide +kernel
theorem dX4_add_13 : decode cX4_add 13 = .ok (.ifCond .eq 11, 3) := by decide +kernel
theorem dX4_add_16 : decode cX4_add 16 = .ok (.iload_n 2, 1) := by decide +kernel
theorem dX4_add_17 : decode cX4_add 17 = .ok (.iload_n 3, 1) := by decide +kernel
theorem dX4_add_18 : decode cX4_add 18 = .ok (.invokestatic 45, 3) := by decide +kernel
theorem dX4_add_21 : decode cX4_add 21 = .ok (.ifCond .ne 5, 3) := by decide +kernel
theorem dX4_add_24 : decode cX4_add 24 = .ok (.iconst (-1), 1) := by decide +kernel
theorem dX4_add_25 : decode cX4_add 25 = .ok (.ireturn, 1) := by decide +kernel
theorem dX4_add_26 : decode cX4_add 26 = .ok (.aload_n 0, 1) := by decide +kernel
theorem dX4_add_27 : decode cX4_add 27 = .ok (.getfield 37, 3) := by decide +kernel
theorem dX4_add_30 : decode cX4_add 30 = .ok (.istore 4, 2) := by decide +kernel
theorem dX4_add_32 : decode cX4_add 32 = .ok (.aload_n 0, 1) := by decide +kernel
theorem dX4_add_33 : decode cX4_add 33 = .ok (.getfield 11, 3) := by decide +kernel
theorem dX4_add_36 : decode cX4_add 36 = .ok (.iload 4, 2) := by decide +kernel
theorem dX4_add_38 : decode cX4_add 38 = .ok (.iload_n 1, 1) := by decide +kernel
theorem dX4_add_39 : decode cX4_add 39 = .ok (.bastore, 1) := by decide +kernel
theorem dX4_add_40 : decode cX4_add 40 = .ok (.aload_n 0, 1) := by decide +kernel
theorem dX4_add_41 : decode cX4_add 41 = .ok (.getfield 15, 3) := by decide +kernel
theorem dX4_add_44 : decode cX4_add 44 = .ok (.iload 4, 2) := by decide +kernel
theorem dX4_add_46 : decode cX4_add 46 = .ok (.iload_n 2, 1) := by decide +kernel
theorem dX4_add_47 : decode cX4_add 47 = .ok (.iastore, 1) := by decide +kernel
theorem dX4_add_48 : decode cX4_add 48 = .ok (.aload_n 0, 1) := by decide +kernel
theorem dX4_add_49 : decode cX4_add 49 = .ok (.getfield 19, 3) := by decide +kernel
theorem dX4_add_52 : decode cX4_add 52 = .ok (.iload 4, 2) := by decide +kernel
theorem dX4_add_54 : decode cX4_add 54 = .ok (.iload_n 3, 1) := by decide +kernel
theorem dX4_add_55 : decode cX4_add 55 = .ok (.iastore, 1) := by decide +kernel
theorem dX4_add_56 : decode cX4_add 56 = .ok (.aload_n 0, 1) := by decide +kernel
theorem dX4_add_57 : decode cX4_add 57 = .ok (.getfield 22, 3) := by decide +kernel
theorem dX4_add_60 : decode cX4_add 60 = .ok (.iload 4, 2) := by decide +kernel
theorem dX4_add_62 : decode cX4_add 62 = .ok (.iload_n 3, 1) := by decide +kernel
theorem dX4_add_63 : decode cX4_add 63 = .ok (.iconst (-1), 1) := by decide +kernel
theorem dX4_add_64 : decode cX4_add 64 = .ok (.if_icmp .ne 10, 3) := by decide +kernel
theorem dX4_add_67 : decode cX4_add 67 = .ok (.iload_n 2, 1) := by decide +kernel
theorem dX4_add_68 : decode cX4_add 68 = .ok (.bipush 100, 2) := by decide +kernel
theorem dX4_add_70 : decode cX4_add 70 = .ok (.iadd, 1) := by decide +kernel
theorem dX4_add_71 : decode cX4_add 71 = .ok (.goto 4, 3) := by decide +kernel
theorem dX4_add_74 : decode cX4_add 74 = .ok (.iload_n 3, 1) := by decide +kernel
theorem dX4_add_75 : decode cX4_add 75 = .ok (.iastore, 1) := by decide +kernel
theorem dX4_add_76 : decode cX4_add 76 = .ok (.aload_n 0, 1) := by decide +kernel
theorem dX4_add_77 : decode cX4_add 77 = .ok (.getfield 25, 3) := by decide +kernel
theorem dX4_add_80 : decode cX4_add 80 = .ok (.iload 4, 2) := by decide +kernel
theorem dX4_add_82 : decode cX4_add 82 = .ok (.iconst (-1), 1) := by decide +kernel
theorem dX4_add_83 : decode cX4_add 83 = .ok (.iastore, 1) := by decide +kernel
theorem dX4_add_84 : decode cX4_add 84 = .ok (.aload_n 0, 1) := by decide +kernel
theorem dX4_add_85 : decode cX4_add 85 = .ok (.getfield 28, 3) := by decide +kernel
theorem dX4_add_88 : decode cX4_add 88 = .ok (.iload 4, 2) := by decide +kernel
theorem dX4_add_90 : decode cX4_add 90 = .ok (.iconst (-1), 1) := by decide +kernel
theorem dX4_add_91 : decode cX4_add 91 = .ok (.iastore, 1) := by decide +kernel
theorem dX4_add_92 : decode cX4_add 92 = .ok (.aload_n 0, 1) := by decide +kernel
theorem dX4_add_93 : decode cX4_add 93 = .ok (.iload 4, 2) := by decide +kernel
theorem dX4_add_95 : decode cX4_add 95 = .ok (.iconst 1, 1) := by decide +kernel
theorem dX4_add_96 : decode cX4_add 96 = .ok (.iadd, 1) := by decide +kernel
theorem dX4_add_97 : decode cX4_add 97 = .ok (.putfield 37, 3) := by decide +kernel
theorem dX4_add_100 : decode cX4_add 100 = .ok (.iload 4, 2) := by decide +kernel
theorem dX4_add_102 : decode cX4_add 102 = .ok (.ireturn, 1) := by decide +kernel
theorem dX4_canDie_0 : decode cX4_canDie 0 = .ok (.iload_n 1, 1) := by decide +kernel
theorem dX4_canDie_1 : decode cX4_canDie 1 = .ok (.iconst (-1), 1) := by decide +kernel
theorem dX4_canDie_2 : decode cX4_canDie 2 = .ok (.if_icmp .eq 23, 3) := by decide +kernel
theorem dX4_canDie_5 : decode cX4_canDie 5 = .ok (.iload_n 1, 1) := by decide +kernel
theorem dX4_canDie_6 : decode cX4_canDie 6 = .ok (.invokestatic 41, 3) := by decide +kernel
theorem dX4_canDie_9 : decode cX4_canDie 9 = .ok (.ifCond .eq 20, 3) := by decide +kernel
theorem dX4_canDie_12 : decode cX4_canDie 12 = .ok (.iload_n 1, 1) := by decide +kernel
theorem dX4_canDie_13 : decode cX4_canDie 13 = .ok (.iload_n 0, 1) := by decide +kernel
theorem dX4_canDie_14 : decode cX4_canDie 14 = .ok (.if_icmp .lt 15, 3) := by decide +kernel
theorem dX4_canDie_17 : decode cX4_canDie 17 = .ok (.iload_n 1, 1) := by decide +kernel
theorem dX4_canDie_18 : decode cX4_canDie 18 = .ok (.iload_n 0, 1) := by decide +kernel
theorem dX4_canDie_19 : decode cX4_canDie 19 = .ok (.isub, 1) := by decide +kernel
theorem dX4_canDie_20 : decode cX4_canDie 20 = .ok (.bipush 100, 2) := by decide +kernel
theorem dX4_canDie_22 : decode cX4_canDie 22 = .ok (.if_icmp .gt 7, 3) := by decide +kernel
theorem dX4_canDie_25 : decode cX4_canDie 25 = .ok (.iconst 1, 1) := by decide +kernel
theorem dX4_canDie_26 : decode cX4_canDie 26 = .ok (.goto 4, 3) := by decide +kernel
theorem dX4_canDie_29 : decode cX4_canDie 29 = .ok (.iconst 0, 1) := by decide +kernel
theorem dX4_canDie_30 : decode cX4_canDie 30 = .ok (.ireturn, 1) := by decide +kernel
theorem dX4_tellFather_0 : decode cX4_tellFather 0 = .ok (.iload_n 3, 1) := by decide +kernel
theorem dX4_tellFather_1 : decode cX4_tellFather 1 = .ok (.invokestatic 49, 3) := by decide +kernel
theorem dX4_tellFather_4 : decode cX4_tellFather 4 = .ok (.ifCond .eq 22, 3) := by decide +kernel
theorem dX4_tellFather_7 : decode cX4_tellFather 7 = .ok (.aload_n 0, 1) := by decide +kernel
theorem dX4_tellFather_8 : decode cX4_tellFather 8 = .ok (.iload_n 1, 1) := by decide +kernel
theorem dX4_tellFather_9 : decode cX4_tellFather 9 = .ok (.iload_n 2, 1) := by decide +kernel
theorem dX4_tellFather_10 : decode cX4_tellFather 10 = .ok (.invokevirtual 52, 3) := by decide +kernel
theorem dX4_tellFather_13 : decode cX4_tellFather 13 = .ok (.ifCond .eq 13, 3) := by decide +kernel
theorem dX4_tellFather_16 : decode cX4_tellFather 16 = .ok (.aload_n 0, 1) := by decide +kernel
theorem dX4_tellFather_17 : decode cX4_tellFather 17 = .ok (.getfield 25, 3) := by decide +kernel
theorem dX4_tellFather_20 : decode cX4_tellFather 20 = .ok (.iload_n 1, 1) := by decide +kernel
theorem dX4_tellFather_21 : decode cX4_tellFather 21 = .ok (.iaload, 1) := by decide +kernel
theorem dX4_tellFather_22 : decode cX4_tellFather 22 = .ok (.iconst (-1), 1) := by decide +kernel
theorem dX4_tellFather_23 : decode cX4_tellFather 23 = .ok (.if_icmp .eq 5, 3) := by decide +kernel
theorem dX4_tellFather_26 : decode cX4_tellFather 26 = .ok (.iconst 0, 1) := by decide +kernel
theorem dX4_tellFather_27 : decode cX4_tellFather 27 = .ok (.ireturn, 1) := by decide +kernel
theorem dX4_tellFather_28 : decode cX4_tellFather 28 = .ok (.aload_n 0, 1) := by decide +kernel
theorem dX4_tellFather_29 : decode cX4_tellFather 29 = .ok (.getfield 25, 3) := by decide +kernel
theorem dX4_tellFather_32 : decode cX4_tellFather 32 = .ok (.iload_n 1, 1) := by decide +kernel
theorem dX4_tellFather_33 : decode cX4_tellFather 33 = .ok (.iload_n 2, 1) := by decide +kernel
theorem dX4_tellFather_34 : decode cX4_tellFather 34 = .ok (.iastore, 1) := by decide +kernel
theorem dX4_tellFather_35 : decode cX4_tellFather 35 = .ok (.aload_n 0, 1) := by decide +kernel
theorem dX4_tellFather_36 : decode cX4_tellFather 36 = .ok (.getfield 31, 3) := by decide +kernel
theorem dX4_tellFather_39 : decode cX4_tellFather 39 = .ok (.iload_n 1, 1) := by decide +kernel
theorem dX4_tellFather_40 : decode cX4_tellFather 40 = .ok (.iload_n 3, 1) := by decide +kernel
theorem dX4_tellFather_41 : decode cX4_tellFather 41 = .ok (.iastore, 1) := by decide +kernel
theorem dX4_tellFather_42 : decode cX4_tellFather 42 = .ok (.iconst 1, 1) := by decide +kernel
theorem dX4_tellFather_43 : decode cX4_tellFather 43 = .ok (.ireturn, 1) := by decide +kernel
theorem dX4_tellMother_0 : decode cX4_tellMother 0 = .ok (.iload_n 3, 1) := by decide +kernel
theorem dX4_tellMother_1 : decode cX4_tellMother 1 = .ok (.invokestatic 49, 3) := by decide +kernel
theorem dX4_tellMother_4 : decode cX4_tellMother 4 = .ok (.ifCond .eq 22, 3) := by decide +kernel
theorem dX4_tellMother_7 : decode cX4_tellMother 7 = .ok (.aload_n 0, 1) := by decide +kernel
theorem dX4_tellMother_8 : decode cX4_tellMother 8 = .ok (.iload_n 1, 1) := by decide +kernel
theorem dX4_tellMother_9 : decode cX4_tellMother 9 = .ok (.iload_n 2, 1) := by decide +kernel
theorem dX4_tellMother_10 : decode cX4_tellMother 10 = .ok (.invokevirtual 55, 3) := by decide +kernel
theorem dX4_tellMother_13 : decode cX4_tellMother 13 = .ok (.ifCond .eq 13, 3) := by decide +kernel
theorem dX4_tellMother_16 : decode cX4_tellMother 16 = .ok (.aload_n 0, 1) := by decide +kernel
theorem dX4_tellMother_17 : decode cX4_tellMother 17 = .ok (.getfield 28, 3) := by decide +kernel
theorem dX4_tellMother_20 : decode cX4_tellMother 20 = .ok (.iload_n 1, 1) := by decide +kernel
theorem dX4_tellMother_21 : decode cX4_tellMother 21 = .ok (.iaload, 1) := by decide +kernel
theorem dX4_tellMother_22 : decode cX4_tellMother 22 = .ok (.iconst (-1), 1) := by decide +kernel
theorem dX4_tellMother_23 : decode cX4_tellMother 23 = .ok (.if_icmp .eq 5, 3) := by decide +kernel
theorem dX4_tellMother_26 : decode cX4_tellMother 26 = .ok (.iconst 0, 1) := by decide +kernel
theorem dX4_tellMother_27 : decode cX4_tellMother 27 = .ok (.ireturn, 1) := by decide +kernel
theorem dX4_tellMother_28 : decode cX4_tellMother 28 = .ok (.aload_n 0, 1) := by decide +kernel
theorem dX4_tellMother_29 : decode cX4_tellMother 29 = .ok (.getfield 28, 3) := by decide +kernel
theorem dX4_tellMother_32 : decode cX4_tellMother 32 = .ok (.iload_n 1, 1) := by decide +kernel
theorem dX4_tellMother_33 : decode cX4_tellMother 33 = .ok (.iload_n 2, 1) := by decide +kernel
theorem dX4_tellMother_34 : decode cX4_tellMother 34 = .ok (.iastore, 1) := by decide +kernel
theorem dX4_tellMother_35 : decode cX4_tellMother 35 = .ok (.aload_n 0, 1) := by decide +kernel
theorem dX4_tellMother_36 : decode cX4_tellMother 36 = .ok (.getfield 34, 3) := by decide +kernel
theorem dX4_tellMother_39 : decode cX4_tellMother 39 = .ok (.iload_n 1, 1) := by decide +kernel
theorem dX4_tellMother_40 : decode cX4_tellMother 40 = .ok (.iload_n 3, 1) := by decide +kernel
theorem dX4_tellMother_41 : decode cX4_tellMother 41 = .ok (.iastore, 1) := by decide +kernel
theorem dX4_tellMother_42 : decode cX4_tellMother 42 = .ok (.iconst 1, 1) := by decide +kernel
theorem dX4_tellMother_43 : decode cX4_tellMother 43 = .ok (.ireturn, 1) := by decide +kernel
theorem dX4_isGrade_0 : decode cX4_isGrade 0 = .ok (.iload_n 0, 1) := by decide +kernel
theorem dX4_isGrade_1 : decode cX4_isGrade 1 = .ok (.iconst 1, 1) := by decide +kernel
theorem dX4_isGrade_2 : decode cX4_isGrade 2 = .ok (.if_icmp .lt 13, 3) := by decide +kernel
theorem dX4_isGrade_5 : decode cX4_isGrade 5 = .ok (.iload_n 0, 1) := by decide +kernel
theorem dX4_isGrade_6 : decode cX4_isGrade 6 = .ok (.bipush 9, 2) := by decide +kernel
theorem dX4_isGrade_8 : decode cX4_isGrade 8 = .ok (.if_icmp .gt 7, 3) := by decide +kernel
theorem dX4_isGrade_11 : decode cX4_isGrade 11 = .ok (.iconst 1, 1) := by decide +kernel
theorem dX4_isGrade_12 : decode cX4_isGrade 12 = .ok (.goto 4, 3) := by decide +kernel
theorem dX4_isGrade_15 : decode cX4_isGrade 15 = .ok (.iconst 0, 1) := by decide +kernel
theorem dX4_isGrade_16 : decode cX4_isGrade 16 = .ok (.ireturn, 1) := by decide +kernel
theorem dX4_canBeFather_0 : decode cX4_canBeFather 0 = .ok (.aload_n 0, 1) := by decide +kernel
theorem dX4_canBeFather_1 : decode cX4_canBeFather 1 = .ok (.iload_n 1, 1) := by decide +kernel
theorem dX4_canBeFather_2 : decode cX4_canBeFather 2 = .ok (.invokevirtual 58, 3) := by decide +kernel
theorem dX4_canBeFather_5 : decode cX4_canBeFather 5 = .ok (.ifCond .eq 64, 3) := by decide +kernel
theorem dX4_canBeFather_8 : decode cX4_canBeFather 8 = .ok (.aload_n 0, 1) := by decide +kernel
theorem dX4_canBeFather_9 : decode cX4_canBeFather 9 = .ok (.iload_n 2, 1) := by decide +kernel
theorem dX4_canBeFather_10 : decode cX4_canBeFather 10 = .ok (.invokevirtual 58, 3) := by decide +kernel
theorem dX4_canBeFather_13 : decode cX4_canBeFather 13 = .ok (.ifCond .eq 56, 3) := by decide +kernel
theorem dX4_canBeFather_16 : decode cX4_canBeFather 16 = .ok (.iload_n 2, 1) := by decide +kernel
theorem dX4_canBeFather_17 : decode cX4_canBeFather 17 = .ok (.iload_n 1, 1) := by decide +kernel
theorem dX4_canBeFather_18 : decode cX4_canBeFather 18 = .ok (.if_icmp .ge 51, 3) := by decide +kernel
theorem dX4_canBeFather_21 : decode cX4_canBeFather 21 = .ok (.aload_n 0, 1) := by decide +kernel
theorem dX4_canBeFather_22 : decode cX4_canBeFather 22 = .ok (.getfield 11, 3) := by decide +kernel
theorem dX4_canBeFather_25 : decode cX4_canBeFather 25 = .ok (.iload_n 2, 1) := by decide +kernel
theorem dX4_canBeFather_26 : decode cX4_canBeFather 26 = .ok (.baload, 1) := by decide +kernel
theorem dX4_canBeFather_27 : decode cX4_canBeFather 27 = .ok (.ifCond .ne 42, 3) := by decide +kernel
theorem dX4_canBeFather_30 : decode cX4_canBeFather 30 = .ok (.aload_n 0, 1) := by decide +kernel
theorem dX4_canBeFather_31 : decode cX4_canBeFather 31 = .ok (.getfield 15, 3) := by decide +kernel
theorem dX4_canBeFather_34 : decode cX4_canBeFather 34 = .ok (.iload_n 1, 1) := by decide +kernel
theorem dX4_canBeFather_35 : decode cX4_canBeFather 35 = .ok (.iaload, 1) := by decide +kernel
theorem dX4_canBeFather_36 : decode cX4_canBeFather 36 = .ok (.aload_n 0, 1) := by decide +kernel
theorem dX4_canBeFather_37 : decode cX4_canBeFather 37 = .ok (.getfield 15, 3) := by decide +kernel
theorem dX4_canBeFather_40 : decode cX4_canBeFather 40 = .ok (.iload_n 2, 1) := by decide +kernel
theorem dX4_canBeFather_41 : decode cX4_canBeFather 41 = .ok (.iaload, 1) := by decide +kernel
theorem dX4_canBeFather_42 : decode cX4_canBeFather 42 = .ok (.isub, 1) := by decide +kernel
theorem dX4_canBeFather_43 : decode cX4_canBeFather 43 = .ok (.bipush 14, 2) := by decide +kernel
theorem dX4_canBeFather_45 : decode cX4_canBeFather 45 = .ok (.if_icmp .lt 24, 3) := by decide +kernel
theorem dX4_canBeFather_48 : decode cX4_canBeFather 48 = .ok (.aload_n 0, 1) := by decide +kernel
theorem dX4_canBeFather_49 : decode cX4_canBeFather 49 = .ok (.getfield 22, 3) := by decide +kernel
theorem dX4_canBeFather_52 : decode cX4_canBeFather 52 = .ok (.iload_n 2, 1) := by decide +kernel
theorem dX4_canBeFather_53 : decode cX4_canBeFather 53 = .ok (.iaload, 1) := by decide +kernel
theorem dX4_canBeFather_54 : decode cX4_canBeFather 54 = .ok (.aload_n 0, 1) := by decide +kernel
theorem dX4_canBeFather_55 : decode cX4_canBeFather 55 = .ok (.getfield 15, 3) := by decide +kernel
theorem dX4_canBeFather_58 : decode cX4_canBeFather 58 = .ok (.iload_n 1, 1) := by decide +kernel
theorem dX4_canBeFather_59 : decode cX4_canBeFather 59 = .ok (.iaload, 1) := by decide +kernel
theorem dX4_canBeFather_60 : decode cX4_canBeFather 60 = .ok (.iconst 1, 1) := by decide +kernel
theorem dX4_canBeFather_61 : decode cX4_canBeFather 61 = .ok (.isub, 1) := by decide +kernel
theorem dX4_canBeFather_62 : decode cX4_canBeFather 62 = .ok (.if_icmp .lt 7, 3) := by decide +kernel
theorem dX4_canBeFather_65 : decode cX4_canBeFather 65 = .ok (.iconst 1, 1) := by decide +kernel
theorem dX4_canBeFather_66 : decode cX4_canBeFather 66 = .ok (.goto 4, 3) := by decide +kernel
theorem dX4_canBeFather_69 : decode cX4_canBeFather 69 = .ok (.iconst 0, 1) := by decide +kernel
theorem dX4_canBeFather_70 : decode cX4_canBeFather 70 = .ok (.ireturn, 1) := by decide +kernel
theorem dX4_canBeMother_0 : decode cX4_canBeMother 0 = .ok (.aload_n 0, 1) := by decide +kernel
theorem dX4_canBeMother_1 : decode cX4_canBeMother 1 = .ok (.iload_n 1, 1) := by decide +kernel
theorem dX4_canBeMother_2 : decode cX4_canBeMother 2 = .ok (.invokevirtual 58, 3) := by decide +kernel
theorem dX4_canBeMother_5 : decode cX4_canBeMother 5 = .ok (.ifCond .eq 80, 3) := by decide +kernel
theorem dX4_canBeMother_8 : decode cX4_canBeMother 8 = .ok (.aload_n 0, 1) := by decide +kernel
theorem dX4_canBeMother_9 : decode cX4_canBeMother 9 = .ok (.iload_n 2, 1) := by decide +kernel
theorem dX4_canBeMother_10 : decode cX4_canBeMother 10 = .ok (.invokevirtual 58, 3) := by decide +kernel
theorem dX4_canBeMother_13 : decode cX4_canBeMother 13 = .ok (.ifCond .eq 72, 3) := by decide +kernel
theorem dX4_canBeMother_16 : decode cX4_canBeMother 16 = .ok (.iload_n 2, 1) := by decide +kernel
theorem dX4_canBeMother_17 : decode cX4_canBeMother 17 = .ok (.iload_n 1, 1) := by decide +kernel
theorem dX4_canBeMother_18 : decode cX4_canBeMother 18 = .ok (.if_icmp .ge 67, 3) := by decide +kernel
theorem dX4_canBeMother_21 : decode cX4_canBeMother 21 = .ok (.aload_n 0, 1) := by decide +kernel
theorem dX4_canBeMother_22 : decode cX4_canBeMother 22 = .ok (.getfield 11, 3) := by decide +kernel
theorem dX4_canBeMother_25 : decode cX4_canBeMother 25 = .ok (.iload_n 2, 1) := by decide +kernel
theorem dX4_canBeMother_26 : decode cX4_canBeMother 26 = .ok (.baload, 1) := by decide +kernel
theorem dX4_canBeMother_27 : decode cX4_canBeMother 27 = .ok (.ifCond .eq 58, 3) := by decide +kernel
theorem dX4_canBeMother_30 : decode cX4_canBeMother 30 = .ok (.aload_n 0, 1) := by decide +kernel
theorem dX4_canBeMother_31 : decode cX4_canBeMother 31 = .ok (.getfield 15, 3) := by decide +kernel
theorem dX4_canBeMother_34 : decode cX4_canBeMother 34 = .ok (.iload_n 1, 1) := by decide +kernel
theorem dX4_canBeMother_35 : decode cX4_canBeMother 35 = .ok (.iaload, 1) := by decide +kernel
theorem dX4_canBeMother_36 : decode cX4_canBeMother 36 = .ok (.aload_n 0, 1) := by decide +kernel
theorem dX4_canBeMother_37 : decode cX4_canBeMother 37 = .ok (.getfield 15, 3) := by decide +kernel
theorem dX4_canBeMother_40 : decode cX4_canBeMother 40 = .ok (.iload_n 2, 1) := by decide +kernel
theorem dX4_canBeMother_41 : decode cX4_canBeMother 41 = .ok (.iaload, 1) := by decide +kernel
theorem dX4_canBeMother_42 : decode cX4_canBeMother 42 = .ok (.isub, 1) := by decide +kernel
theorem dX4_canBeMother_43 : decode cX4_canBeMother 43 = .ok (.bipush 14, 2) := by decide +kernel
theorem dX4_canBeMother_45 : decode cX4_canBeMother 45 = .ok (.if_icmp .lt 40, 3) := by decide +kernel
theorem dX4_canBeMother_48 : decode cX4_canBeMother 48 = .ok (.aload_n 0, 1) := by decide +kernel
theorem dX4_canBeMother_49 : decode cX4_canBeMother 49 = .ok (.getfield 15, 3) := by decide +kernel
theorem dX4_canBeMother_52 : decode cX4_canBeMother 52 = .ok (.iload_n 1, 1) := by decide +kernel
theorem dX4_canBeMother_53 : decode cX4_canBeMother 53 = .ok (.iaload, 1) := by decide +kernel
theorem dX4_canBeMother_54 : decode cX4_canBeMother 54 = .ok (.aload_n 0, 1) := by decide +kernel
theorem dX4_canBeMother_55 : decode cX4_canBeMother 55 = .ok (.getfield 15, 3) := by decide +kernel
theorem dX4_canBeMother_58 : decode cX4_canBeMother 58 = .ok (.iload_n 2, 1) := by decide +kernel
theorem dX4_canBeMother_59 : decode cX4_canBeMother 59 = .ok (.iaload, 1) := by decide +kernel
theorem dX4_canBeMother_60 : decode cX4_canBeMother 60 = .ok (.isub, 1) := by decide +kernel
theorem dX4_canBeMother_61 : decode cX4_canBeMother 61 = .ok (.bipush 50, 2) := by decide +kernel
theorem dX4_canBeMother_63 : decode cX4_canBeMother 63 = .ok (.if_icmp .gt 22, 3) := by decide +kernel
theorem dX4_canBeMother_66 : decode cX4_canBeMother 66 = .ok (.aload_n 0, 1) := by decide +kernel
theorem dX4_canBeMother_67 : decode cX4_canBeMother 67 = .ok (.getfield 22, 3) := by decide +kernel
theorem dX4_canBeMother_70 : decode cX4_canBeMother 70 = .ok (.iload_n 2, 1) := by decide +kernel
theorem dX4_canBeMother_71 : decode cX4_canBeMother 71 = .ok (.iaload, 1) := by decide +kernel
theorem dX4_canBeMother_72 : decode cX4_canBeMother 72 = .ok (.aload_n 0, 1) := by decide +kernel
theorem dX4_canBeMother_73 : decode cX4_canBeMother 73 = .ok (.getfield 15, 3) := by decide +kernel
theorem dX4_canBeMother_76 : decode cX4_canBeMother 76 = .ok (.iload_n 1, 1) := by decide +kernel
theorem dX4_canBeMother_77 : decode cX4_canBeMother 77 = .ok (.iaload, 1) := by decide +kernel
theorem dX4_canBeMother_78 : decode cX4_canBeMother 78 = .ok (.if_icmp .lt 7, 3) := by decide +kernel
theorem dX4_canBeMother_81 : decode cX4_canBeMother 81 = .ok (.iconst 1, 1) := by decide +kernel
theorem dX4_canBeMother_82 : decode cX4_canBeMother 82 = .ok (.goto 4, 3) := by decide +kernel
theorem dX4_canBeMother_85 : decode cX4_canBeMother 85 = .ok (.iconst 0, 1) := by decide +kernel
theorem dX4_canBeMother_86 : decode cX4_canBeMother 86 = .ok (.ireturn, 1) := by decide +kernel
theorem dX4_isFemale_0 : decode cX4_isFemale 0 = .ok (.aload_n 0, 1) := by decide +kernel
theorem dX4_isFemale_1 : decode cX4_isFemale 1 = .ok (.iload_n 1, 1) := by decide +kernel
theorem dX4_isFemale_2 : decode cX4_isFemale 2 = .ok (.invokevirtual 58, 3) := by decide +kernel
theorem dX4_isFemale_5 : decode cX4_isFemale 5 = .ok (.ifCond .eq 16, 3) := by decide +kernel
theorem dX4_isFemale_8 : decode cX4_isFemale 8 = .ok (.aload_n 0, 1) := by decide +kernel
theorem dX4_isFemale_9 : decode cX4_isFemale 9 = .ok (.getfield 11, 3) := by decide +kernel
theorem dX4_isFemale_12 : decode cX4_isFemale 12 = .ok (.iload_n 1, 1) := by decide +kernel
theorem dX4_isFemale_13 : decode cX4_isFemale 13 = .ok (.baload, 1) := by decide +kernel
theorem dX4_isFemale_14 : decode cX4_isFemale 14 = .ok (.ifCond .eq 7, 3) := by decide +kernel
theorem dX4_isFemale_17 : decode cX4_isFemale 17 = .ok (.iconst 1, 1) := by decide +kernel
theorem dX4_isFemale_18 : decode cX4_isFemale 18 = .ok (.goto 4, 3) := by decide +kernel
theorem dX4_isFemale_21 : decode cX4_isFemale 21 = .ok (.iconst 0, 1) := by decide +kernel
theorem dX4_isFemale_22 : decode cX4_isFemale 22 = .ok (.ireturn, 1) := by decide +kernel
theorem dX4_bornOf_0 : decode cX4_bornOf 0 = .ok (.aload_n 0, 1) := by decide +kernel
theorem dX4_bornOf_1 : decode cX4_bornOf 1 = .ok (.iload_n 1, 1) := by decide +kernel
theorem dX4_bornOf_2 : decode cX4_bornOf 2 = .ok (.invokevirtual 58, 3) := by decide +kernel
theorem dX4_bornOf_5 : decode cX4_bornOf 5 = .ok (.ifCond .eq 12, 3) := by decide +kernel
theorem dX4_bornOf_8 : decode cX4_bornOf 8 = .ok (.aload_n 0, 1) := by decide +kernel
theorem dX4_bornOf_9 : decode cX4_bornOf 9 = .ok (.getfield 15, 3) := by decide +kernel
theorem dX4_bornOf_12 : decode cX4_bornOf 12 = .ok (.iload_n 1, 1) := by decide +kernel
theorem dX4_bornOf_13 : decode cX4_bornOf 13 = .ok (.iaload, 1) := by decide +kernel
theorem dX4_bornOf_14 : decode cX4_bornOf 14 = .ok (.goto 4, 3) := by decide +kernel
theorem dX4_bornOf_17 : decode cX4_bornOf 17 = .ok (.iconst (-1), 1) := by decide +kernel
theorem dX4_bornOf_18 : decode cX4_bornOf 18 = .ok (.ireturn, 1) := by decide +kernel
theorem dX4_toldDeathOf_0 : decode cX4_toldDeathOf 0 = .ok (.aload_n 0, 1) := by decide +kernel
theorem dX4_toldDeathOf_1 : decode cX4_toldDeathOf 1 = .ok (.iload_n 1, 1) := by decide +kernel
theorem dX4_toldDeathOf_2 : decode cX4_toldDeathOf 2 = .ok (.invokevirtual 58, 3) := by decide +kernel
theorem dX4_toldDeathOf_5 : decode cX4_toldDeathOf 5 = .ok (.ifCond .eq 12, 3) := by decide +kernel
theorem dX4_toldDeathOf_8 : decode cX4_toldDeathOf 8 = .ok (.aload_n 0, 1) := by decide +kernel
theorem dX4_toldDeathOf_9 : decode cX4_toldDeathOf 9 = .ok (.getfield 19, 3) := by decide +kernel
theorem dX4_toldDeathOf_12 : decode cX4_toldDeathOf 12 = .ok (.iload_n 1, 1) := by decide +kernel
theorem dX4_toldDeathOf_13 : decode cX4_toldDeathOf 13 = .ok (.iaload, 1) := by decide +kernel
theorem dX4_toldDeathOf_14 : decode cX4_toldDeathOf 14 = .ok (.goto 4, 3) := by decide +kernel
theorem dX4_toldDeathOf_17 : decode cX4_toldDeathOf 17 = .ok (.iconst (-1), 1) := by decide +kernel
theorem dX4_toldDeathOf_18 : decode cX4_toldDeathOf 18 = .ok (.ireturn, 1) := by decide +kernel
theorem dX4_fatherOf_0 : decode cX4_fatherOf 0 = .ok (.aload_n 0, 1) := by decide +kernel
theorem dX4_fatherOf_1 : decode cX4_fatherOf 1 = .ok (.iload_n 1, 1) := by decide +kernel
theorem dX4_fatherOf_2 : decode cX4_fatherOf 2 = .ok (.invokevirtual 58, 3) := by decide +kernel
theorem dX4_fatherOf_5 : decode cX4_fatherOf 5 = .ok (.ifCond .eq 12, 3) := by decide +kernel
theorem dX4_fatherOf_8 : decode cX4_fatherOf 8 = .ok (.aload_n 0, 1) := by decide +kernel
theorem dX4_fatherOf_9 : decode cX4_fatherOf 9 = .ok (.getfield 25, 3) := by decide +kernel
theorem dX4_fatherOf_12 : decode cX4_fatherOf 12 = .ok (.iload_n 1, 1) := by decide +kernel
theorem dX4_fatherOf_13 : decode cX4_fatherOf 13 = .ok (.iaload, 1) := by decide +kernel
theorem dX4_fatherOf_14 : decode cX4_fatherOf 14 = .ok (.goto 4, 3) := by decide +kernel
theorem dX4_fatherOf_17 : decode cX4_fatherOf 17 = .ok (.iconst (-1), 1) := by decide +kernel
theorem dX4_fatherOf_18 : decode cX4_fatherOf 18 = .ok (.ireturn, 1) := by decide +kernel
theorem dX4_motherOf_0 : decode cX4_motherOf 0 = .ok (.aload_n 0, 1) := by decide +kernel
theorem dX4_motherOf_1 : decode cX4_motherOf 1 = .ok (.iload_n 1, 1) := by decide +kernel
theorem dX4_motherOf_2 : decode cX4_motherOf 2 = .ok (.invokevirtual 58, 3) := by decide +kernel
theorem dX4_motherOf_5 : decode cX4_motherOf 5 = .ok (.ifCond .eq 12, 3) := by decide +kernel
theorem dX4_motherOf_8 : decode cX4_motherOf 8 = .ok (.aload_n 0, 1) := by decide +kernel
theorem dX4_motherOf_9 : decode cX4_motherOf 9 = .ok (.getfield 28, 3) := by decide +kernel
theorem dX4_motherOf_12 : decode cX4_motherOf 12 = .ok (.iload_n 1, 1) := by decide +kernel
theorem dX4_motherOf_13 : decode cX4_motherOf 13 = .ok (.iaload, 1) := by decide +kernel
theorem dX4_motherOf_14 : decode cX4_motherOf 14 = .ok (.goto 4, 3) := by decide +kernel
theorem dX4_motherOf_17 : decode cX4_motherOf 17 = .ok (.iconst (-1), 1) := by decide +kernel
theorem dX4_motherOf_18 : decode cX4_motherOf 18 = .ok (.ireturn, 1) := by decide +kernel
theorem dX4_fatherGradeOf_0 : decode cX4_fatherGradeOf 0 = .ok (.aload_n 0, 1) := by decide +kernel
theorem dX4_fatherGradeOf_1 : decode cX4_fatherGradeOf 1 = .ok (.iload_n 1, 1) := by decide +kernel
theorem dX4_fatherGradeOf_2 : decode cX4_fatherGradeOf 2 = .ok (.invokevirtual 58, 3) := by decide +kernel
theorem dX4_fatherGradeOf_5 : decode cX4_fatherGradeOf 5 = .ok (.ifCond .eq 12, 3) := by decide +kernel
theorem dX4_fatherGradeOf_8 : decode cX4_fatherGradeOf 8 = .ok (.aload_n 0, 1) := by decide +kernel
theorem dX4_fatherGradeOf_9 : decode cX4_fatherGradeOf 9 = .ok (.getfield 31, 3) := by decide +kernel
theorem dX4_fatherGradeOf_12 : decode cX4_fatherGradeOf 12 = .ok (.iload_n 1, 1) := by decide +kernel
theorem dX4_fatherGradeOf_13 : decode cX4_fatherGradeOf 13 = .ok (.iaload, 1) := by decide +kernel
theorem dX4_fatherGradeOf_14 : decode cX4_fatherGradeOf 14 = .ok (.goto 4, 3) := by decide +kernel
theorem dX4_fatherGradeOf_17 : decode cX4_fatherGradeOf 17 = .ok (.iconst 0, 1) := by decide +kernel
theorem dX4_fatherGradeOf_18 : decode cX4_fatherGradeOf 18 = .ok (.ireturn, 1) := by decide +kernel
theorem dX4_motherGradeOf_0 : decode cX4_motherGradeOf 0 = .ok (.aload_n 0, 1) := by decide +kernel
theorem dX4_motherGradeOf_1 : decode cX4_motherGradeOf 1 = .ok (.iload_n 1, 1) := by decide +kernel
theorem dX4_motherGradeOf_2 : decode cX4_motherGradeOf 2 = .ok (.invokevirtual 58, 3) := by decide +kernel
theorem dX4_motherGradeOf_5 : decode cX4_motherGradeOf 5 = .ok (.ifCond .eq 12, 3) := by decide +kernel
theorem dX4_motherGradeOf_8 : decode cX4_motherGradeOf 8 = .ok (.aload_n 0, 1) := by decide +kernel
theorem dX4_motherGradeOf_9 : decode cX4_motherGradeOf 9 = .ok (.getfield 34, 3) := by decide +kernel
theorem dX4_motherGradeOf_12 : decode cX4_motherGradeOf 12 = .ok (.iload_n 1, 1) := by decide +kernel
theorem dX4_motherGradeOf_13 : decode cX4_motherGradeOf 13 = .ok (.iaload, 1) := by decide +kernel
theorem dX4_motherGradeOf_14 : decode cX4_motherGradeOf 14 = .ok (.goto 4, 3) := by decide +kernel
theorem dX4_motherGradeOf_17 : decode cX4_motherGradeOf 17 = .ok (.iconst 0, 1) := by decide +kernel
theorem dX4_motherGradeOf_18 : decode cX4_motherGradeOf 18 = .ok (.ireturn, 1) := by decide +kernel
theorem dX4_isLiving_0 : decode cX4_isLiving 0 = .ok (.aload_n 0, 1) := by decide +kernel
theorem dX4_isLiving_1 : decode cX4_isLiving 1 = .ok (.iload_n 1, 1) := by decide +kernel
theorem dX4_isLiving_2 : decode cX4_isLiving 2 = .ok (.invokevirtual 58, 3) := by decide +kernel
theorem dX4_isLiving_5 : decode cX4_isLiving 5 = .ok (.ifCond .eq 27, 3) := by decide +kernel
theorem dX4_isLiving_8 : decode cX4_isLiving 8 = .ok (.aload_n 0, 1) := by decide +kernel
theorem dX4_isLiving_9 : decode cX4_isLiving 9 = .ok (.getfield 15, 3) := by decide +kernel
theorem dX4_isLiving_12 : decode cX4_isLiving 12 = .ok (.iload_n 1, 1) := by decide +kernel
theorem dX4_isLiving_13 : decode cX4_isLiving 13 = .ok (.iaload, 1) := by decide +kernel
theorem dX4_isLiving_14 : decode cX4_isLiving 14 = .ok (.iload_n 2, 1) := by decide +kernel
theorem dX4_isLiving_15 : decode cX4_isLiving 15 = .ok (.if_icmp .gt 17, 3) := by decide +kernel
theorem dX4_isLiving_18 : decode cX4_isLiving 18 = .ok (.aload_n 0, 1) := by decide +kernel
theorem dX4_isLiving_19 : decode cX4_isLiving 19 = .ok (.getfield 22, 3) := by decide +kernel
theorem dX4_isLiving_22 : decode cX4_isLiving 22 = .ok (.iload_n 1, 1) := by decide +kernel
theorem dX4_isLiving_23 : decode cX4_isLiving 23 = .ok (.iaload, 1) := by decide +kernel
theorem dX4_isLiving_24 : decode cX4_isLiving 24 = .ok (.iload_n 2, 1) := by decide +kernel
theorem dX4_isLiving_25 : decode cX4_isLiving 25 = .ok (.if_icmp .lt 7, 3) := by decide +kernel
theorem dX4_isLiving_28 : decode cX4_isLiving 28 = .ok (.iconst 1, 1) := by decide +kernel
theorem dX4_isLiving_29 : decode cX4_isLiving 29 = .ok (.goto 4, 3) := by decide +kernel
theorem dX4_isLiving_32 : decode cX4_isLiving 32 = .ok (.iconst 0, 1) := by decide +kernel
theorem dX4_isLiving_33 : decode cX4_isLiving 33 = .ok (.ireturn, 1) := by decide +kernel
theorem dX4_childrenOf_0 : decode cX4_childrenOf 0 = .ok (.iconst 0, 1) := by decide +kernel
theorem dX4_childrenOf_1 : decode cX4_childrenOf 1 = .ok (.istore_n 2, 1) := by decide +kernel
theorem dX4_childrenOf_2 : decode cX4_childrenOf 2 = .ok (.iconst 0, 1) := by decide +kernel
theorem dX4_childrenOf_3 : decode cX4_childrenOf 3 = .ok (.istore_n 3, 1) := by decide +kernel
theorem dX4_childrenOf_4 : decode cX4_childrenOf 4 = .ok (.iload_n 3, 1) := by decide +kernel
theorem dX4_childrenOf_5 : decode cX4_childrenOf 5 = .ok (.aload_n 0, 1) := by decide +kernel
theorem dX4_childrenOf_6 : decode cX4_childrenOf 6 = .ok (.getfield 37, 3) := by decide +kernel
theorem dX4_childrenOf_9 : decode cX4_childrenOf 9 = .ok (.if_icmp .ge 32, 3) := by decide +kernel
theorem dX4_childrenOf_12 : decode cX4_childrenOf 12 = .ok (.aload_n 0, 1) := by decide +kernel
theorem dX4_childrenOf_13 : decode cX4_childrenOf 13 = .ok (.getfield 25, 3) := by decide +kernel
theorem dX4_childrenOf_16 : decode cX4_childrenOf 16 = .ok (.iload_n 3, 1) := by decide +kernel
theorem dX4_childrenOf_17 : decode cX4_childrenOf 17 = .ok (.iaload, 1) := by decide +kernel
theorem dX4_childrenOf_18 : decode cX4_childrenOf 18 = .ok (.iload_n 1, 1) := by decide +kernel
theorem dX4_childrenOf_19 : decode cX4_childrenOf 19 = .ok (.if_icmp .eq 13, 3) := by decide +kernel
theorem dX4_childrenOf_22 : decode cX4_childrenOf 22 = .ok (.aload_n 0, 1) := by decide +kernel
theorem dX4_childrenOf_23 : decode cX4_childrenOf 23 = .ok (.getfield 28, 3) := by decide +kernel
theorem dX4_childrenOf_26 : decode cX4_childrenOf 26 = .ok (.iload_n 3, 1) := by decide +kernel
theorem dX4_childrenOf_27 : decode cX4_childrenOf 27 = .ok (.iaload, 1) := by decide +kernel
theorem dX4_childrenOf_28 : decode cX4_childrenOf 28 = .ok (.iload_n 1, 1) := by decide +kernel
theorem dX4_childrenOf_29 : decode cX4_childrenOf 29 = .ok (.if_icmp .ne 6, 3) := by decide +kernel
theorem dX4_childrenOf_32 : decode cX4_childrenOf 32 = .ok (.iinc 2 1, 3) := by decide +kernel
theorem dX4_childrenOf_35 : decode cX4_childrenOf 35 = .ok (.iinc 3 1, 3) := by decide +kernel
theorem dX4_childrenOf_38 : decode cX4_childrenOf 38 = .ok (.goto (-34), 3) := by decide +kernel
theorem dX4_childrenOf_41 : decode cX4_childrenOf 41 = .ok (.iload_n 2, 1) := by decide +kernel
theorem dX4_childrenOf_42 : decode cX4_childrenOf 42 = .ok (.ireturn, 1) := by decide +kernel
theorem dX4_livingLines_0 : decode cX4_livingLines 0 = .ok (.lconst 0, 1) := by decide +kernel
theorem dX4_livingLines_1 : decode cX4_livingLines 1 = .ok (.lstore_n 2, 1) := by decide +kernel
theorem dX4_livingLines_2 : decode cX4_livingLines 2 = .ok (.aload_n 0, 1) := by decide +kernel
theorem dX4_livingLines_3 : decode cX4_livingLines 3 = .ok (.getfield 37, 3) := by decide +kernel
theorem dX4_livingLines_6 : decode cX4_livingLines 6 = .ok (.iconst 1, 1) := by decide +kernel
theorem dX4_livingLines_7 : decode cX4_livingLines 7 = .ok (.isub, 1) := by decide +kernel
theorem dX4_livingLines_8 : decode cX4_livingLines 8 = .ok (.istore 4, 2) := by decide +kernel
theorem dX4_livingLines_10 : decode cX4_livingLines 10 = .ok (.iload 4, 2) := by decide +kernel
theorem dX4_livingLines_12 : decode cX4_livingLines 12 = .ok (.ifCond .lt 68, 3) := by decide +kernel
theorem dX4_livingLines_15 : decode cX4_livingLines 15 = .ok (.aload_n 0, 1) := by decide +kernel
theorem dX4_livingLines_16 : decode cX4_livingLines 16 = .ok (.getfield 11, 3) := by decide +kernel
theorem dX4_livingLines_19 : decode cX4_livingLines 19 = .ok (.iload 4, 2) := by decide +kernel
theorem dX4_livingLines_21 : decode cX4_livingLines 21 = .ok (.baload, 1) := by decide +kernel
theorem dX4_livingLines_22 : decode cX4_livingLines 22 = .ok (.ifCond .ne 20, 3) := by decide +kernel
theorem dX4_livingLines_25 : decode cX4_livingLines 25 = .ok (.aload_n 0, 1) := by decide +kernel
theorem dX4_livingLines_26 : decode cX4_livingLines 26 = .ok (.iload 4, 2) := by decide +kernel
theorem dX4_livingLines_28 : decode cX4_livingLines 28 = .ok (.iload_n 1, 1) := by decide +kernel
theorem dX4_livingLines_29 : decode cX4_livingLines 29 = .ok (.invokevirtual 61, 3) := by decide +kernel
theorem dX4_livingLines_32 : decode cX4_livingLines 32 = .ok (.ifCond .eq 10, 3) := by decide +kernel
theorem dX4_livingLines_35 : decode cX4_livingLines 35 = .ok (.lload_n 2, 1) := by decide +kernel
theorem dX4_livingLines_36 : decode cX4_livingLines 36 = .ok (.lconst 1, 1) := by decide +kernel
theorem dX4_livingLines_37 : decode cX4_livingLines 37 = .ok (.iload 4, 2) := by decide +kernel
theorem dX4_livingLines_39 : decode cX4_livingLines 39 = .ok (.lshl, 1) := by decide +kernel
theorem dX4_livingLines_40 : decode cX4_livingLines 40 = .ok (.lor, 1) := by decide +kernel
theorem dX4_livingLines_41 : decode cX4_livingLines 41 = .ok (.lstore_n 2, 1) := by decide +kernel
theorem dX4_livingLines_42 : decode cX4_livingLines 42 = .ok (.lload_n 2, 1) := by decide +kernel
theorem dX4_livingLines_43 : decode cX4_livingLines 43 = .ok (.iload 4, 2) := by decide +kernel
theorem dX4_livingLines_45 : decode cX4_livingLines 45 = .ok (.invokestatic 64, 3) := by decide +kernel
theorem dX4_livingLines_48 : decode cX4_livingLines 48 = .ok (.ifCond .eq 26, 3) := by decide +kernel
theorem dX4_livingLines_51 : decode cX4_livingLines 51 = .ok (.aload_n 0, 1) := by decide +kernel
theorem dX4_livingLines_52 : decode cX4_livingLines 52 = .ok (.getfield 25, 3) := by decide +kernel
theorem dX4_livingLines_55 : decode cX4_livingLines 55 = .ok (.iload 4, 2) := by decide +kernel
theorem dX4_livingLines_57 : decode cX4_livingLines 57 = .ok (.iaload, 1) := by decide +kernel
theorem dX4_livingLines_58 : decode cX4_livingLines 58 = .ok (.iconst (-1), 1) := by decide +kernel
theorem dX4_livingLines_59 : decode cX4_livingLines 59 = .ok (.if_icmp .eq 15, 3) := by decide +kernel
theorem dX4_livingLines_62 : decode cX4_livingLines 62 = .ok (.lload_n 2, 1) := by decide +kernel
theorem dX4_livingLines_63 : decode cX4_livingLines 63 = .ok (.lconst 1, 1) := by decide +kernel
theorem dX4_livingLines_64 : decode cX4_livingLines 64 = .ok (.aload_n 0, 1) := by decide +kernel
theorem dX4_livingLines_65 : decode cX4_livingLines 65 = .ok (.getfield 25, 3) := by decide +kernel
theorem dX4_livingLines_68 : decode cX4_livingLines 68 = .ok (.iload 4, 2) := by decide +kernel
theorem dX4_livingLines_70 : decode cX4_livingLines 70 = .ok (.iaload, 1) := by decide +kernel
theorem dX4_livingLines_71 : decode cX4_livingLines 71 = .ok (.lshl, 1) := by decide +kernel
theorem dX4_livingLines_72 : decode cX4_livingLines 72 = .ok (.lor, 1) := by decide +kernel
theorem dX4_livingLines_73 : decode cX4_livingLines 73 = .ok (.lstore_n 2, 1) := by decide +kernel
theorem dX4_livingLines_74 : decode cX4_livingLines 74 = .ok (.iinc 4 (-1), 3) := by decide +kernel
theorem dX4_livingLines_77 : decode cX4_livingLines 77 = .ok (.goto (-67), 3) := by decide +kernel
theorem dX4_livingLines_80 : decode cX4_livingLines 80 = .ok (.lload_n 2, 1) := by decide +kernel
theorem dX4_livingLines_81 : decode cX4_livingLines 81 = .ok (.lreturn, 1) := by decide +kernel
theorem dX4_isElder_0 : decode cX4_isElder 0 = .ok (.aload_n 0, 1) := by decide +kernel
theorem dX4_isElder_1 : decode cX4_isElder 1 = .ok (.iload_n 1, 1) := by decide +kernel
theorem dX4_isElder_2 : decode cX4_isElder 2 = .ok (.invokevirtual 68, 3) := by decide +kernel
theorem dX4_isElder_5 : decode cX4_isElder 5 = .ok (.aload_n 0, 1) := by decide +kernel
theorem dX4_isElder_6 : decode cX4_isElder 6 = .ok (.iload_n 2, 1) := by decide +kernel
theorem dX4_isElder_7 : decode cX4_isElder 7 = .ok (.invokevirtual 68, 3) := by decide +kernel
theorem dX4_isElder_10 : decode cX4_isElder 10 = .ok (.isub, 1) := by decide +kernel
theorem dX4_isElder_11 : decode cX4_isElder 11 = .ok (.istore_n 3, 1) := by decide +kernel
theorem dX4_isElder_12 : decode cX4_isElder 12 = .ok (.iload_n 3, 1) := by decide +kernel
theorem dX4_isElder_13 : decode cX4_isElder 13 = .ok (.ifCond .lt 12, 3) := by decide +kernel
theorem dX4_isElder_16 : decode cX4_isElder 16 = .ok (.iload_n 3, 1) := by decide +kernel
theorem dX4_isElder_17 : decode cX4_isElder 17 = .ok (.ifCond .ne 12, 3) := by decide +kernel
theorem dX4_isElder_20 : decode cX4_isElder 20 = .ok (.iload_n 1, 1) := by decide +kernel
theorem dX4_isElder_21 : decode cX4_isElder 21 = .ok (.iload_n 2, 1) := by decide +kernel
theorem dX4_isElder_22 : decode cX4_isElder 22 = .ok (.if_icmp .ge 7, 3) := by decide +kernel
theorem dX4_isElder_25 : decode cX4_isElder 25 = .ok (.iconst 1, 1) := by decide +kernel
theorem dX4_isElder_26 : decode cX4_isElder 26 = .ok (.goto 4, 3) := by decide +kernel
theorem dX4_isElder_29 : decode cX4_isElder 29 = .ok (.iconst 0, 1) := by decide +kernel
theorem dX4_isElder_30 : decode cX4_isElder 30 = .ok (.ireturn, 1) := by decide +kernel
theorem dX4_placeOf_0 : decode cX4_placeOf 0 = .ok (.aload_n 0, 1) := by decide +kernel
theorem dX4_placeOf_1 : decode cX4_placeOf 1 = .ok (.iload_n 1, 1) := by decide +kernel
theorem dX4_placeOf_2 : decode cX4_placeOf 2 = .ok (.invokevirtual 72, 3) := by decide +kernel
theorem dX4_placeOf_5 : decode cX4_placeOf 5 = .ok (.istore 4, 2) := by decide +kernel
theorem dX4_placeOf_7 : decode cX4_placeOf 7 = .ok (.iconst 1, 1) := by decide +kernel
theorem dX4_placeOf_8 : decode cX4_placeOf 8 = .ok (.istore 5, 2) := by decide +kernel
theorem dX4_placeOf_10 : decode cX4_placeOf 10 = .ok (.iconst 0, 1) := by decide +kernel
theorem dX4_placeOf_11 : decode cX4_placeOf 11 = .ok (.istore 6, 2) := by decide +kernel
theorem dX4_placeOf_13 : decode cX4_placeOf 13 = .ok (.iload 6, 2) := by decide +kernel
theorem dX4_placeOf_15 : decode cX4_placeOf 15 = .ok (.aload_n 0, 1) := by decide +kernel
theorem dX4_placeOf_16 : decode cX4_placeOf 16 = .ok (.getfield 37, 3) := by decide +kernel
theorem dX4_placeOf_19 : decode cX4_placeOf 19 = .ok (.if_icmp .ge 43, 3) := by decide +kernel
theorem dX4_placeOf_22 : decode cX4_placeOf 22 = .ok (.aload_n 0, 1) := by decide +kernel
theorem dX4_placeOf_23 : decode cX4_placeOf 23 = .ok (.getfield 25, 3) := by decide +kernel
theorem dX4_placeOf_26 : decode cX4_placeOf 26 = .ok (.iload 6, 2) := by decide +kernel
theorem dX4_placeOf_28 : decode cX4_placeOf 28 = .ok (.iaload, 1) := by decide +kernel
theorem dX4_placeOf_29 : decode cX4_placeOf 29 = .ok (.iload 4, 2) := by decide +kernel
theorem dX4_placeOf_31 : decode cX4_placeOf 31 = .ok (.if_icmp .ne 25, 3) := by decide +kernel
theorem dX4_placeOf_34 : decode cX4_placeOf 34 = .ok (.lload_n 2, 1) := by decide +kernel
theorem dX4_placeOf_35 : decode cX4_placeOf 35 = .ok (.iload 6, 2) := by decide +kernel
theorem dX4_placeOf_37 : decode cX4_placeOf 37 = .ok (.invokestatic 64, 3) := by decide +kernel
theorem dX4_placeOf_40 : decode cX4_placeOf 40 = .ok (.ifCond .eq 16, 3) := by decide +kernel
theorem dX4_placeOf_43 : decode cX4_placeOf 43 = .ok (.aload_n 0, 1) := by decide +kernel
theorem dX4_placeOf_44 : decode cX4_placeOf 44 = .ok (.iload 6, 2) := by decide +kernel
theorem dX4_placeOf_46 : decode cX4_placeOf 46 = .ok (.iload_n 1, 1) := by decide +kernel
theorem dX4_placeOf_47 : decode cX4_placeOf 47 = .ok (.invokevirtual 75, 3) := by decide +kernel
theorem dX4_placeOf_50 : decode cX4_placeOf 50 = .ok (.ifCond .eq 6, 3) := by decide +kernel
theorem dX4_placeOf_53 : decode cX4_placeOf 53 = .ok (.iinc 5 1, 3) := by decide +kernel
theorem dX4_placeOf_56 : decode cX4_placeOf 56 = .ok (.iinc 6 1, 3) := by decide +kernel
theorem dX4_placeOf_59 : decode cX4_placeOf 59 = .ok (.goto (-46), 3) := by decide +kernel
theorem dX4_placeOf_62 : decode cX4_placeOf 62 = .ok (.iload 5, 2) := by decide +kernel
theorem dX4_placeOf_64 : decode cX4_placeOf 64 = .ok (.ireturn, 1) := by decide +kernel
theorem dX4_headOf_0 : decode cX4_headOf 0 = .ok (.aload_n 0, 1) := by decide +kernel
theorem dX4_headOf_1 : decode cX4_headOf 1 = .ok (.iload_n 2, 1) := by decide +kernel
theorem dX4_headOf_2 : decode cX4_headOf 2 = .ok (.invokevirtual 78, 3) := by decide +kernel
theorem dX4_headOf_5 : decode cX4_headOf 5 = .ok (.lstore_n 3, 1) := by decide +kernel
theorem dX4_headOf_6 : decode cX4_headOf 6 = .ok (.iload_n 1, 1) := by decide +kernel
theorem dX4_headOf_7 : decode cX4_headOf 7 = .ok (.istore 5, 2) := by decide +kernel
theorem dX4_headOf_9 : decode cX4_headOf 9 = .ok (.iconst 0, 1) := by decide +kernel
theorem dX4_headOf_10 : decode cX4_headOf 10 = .ok (.istore 6, 2) := by decide +kernel
theorem dX4_headOf_12 : decode cX4_headOf 12 = .ok (.iload 6, 2) := by decide +kernel
theorem dX4_headOf_14 : decode cX4_headOf 14 = .ok (.bipush 60, 2) := by decide +kernel
theorem dX4_headOf_16 : decode cX4_headOf 16 = .ok (.if_icmp .ge 37, 3) := by decide +kernel
theorem dX4_headOf_19 : decode cX4_headOf 19 = .ok (.iload 5, 2) := by decide +kernel
theorem dX4_headOf_21 : decode cX4_headOf 21 = .ok (.iconst (-1), 1) := by decide +kernel
theorem dX4_headOf_22 : decode cX4_headOf 22 = .ok (.if_icmp .eq 31, 3) := by decide +kernel
theorem dX4_headOf_25 : decode cX4_headOf 25 = .ok (.aload_n 0, 1) := by decide +kernel
theorem dX4_headOf_26 : decode cX4_headOf 26 = .ok (.iload 5, 2) := by decide +kernel
theorem dX4_headOf_28 : decode cX4_headOf 28 = .ok (.iload_n 2, 1) := by decide +kernel
theorem dX4_headOf_29 : decode cX4_headOf 29 = .ok (.invokevirtual 61, 3) := by decide +kernel
theorem dX4_headOf_32 : decode cX4_headOf 32 = .ok (.ifCond .eq 6, 3) := by decide +kernel
theorem dX4_headOf_35 : decode cX4_headOf 35 = .ok (.iload 5, 2) := by decide +kernel
theorem dX4_headOf_37 : decode cX4_headOf 37 = .ok (.ireturn, 1) := by decide +kernel
theorem dX4_headOf_38 : decode cX4_headOf 38 = .ok (.aload_n 0, 1) := by decide +kernel
theorem dX4_headOf_39 : decode cX4_headOf 39 = .ok (.iload 5, 2) := by decide +kernel
theorem dX4_headOf_41 : decode cX4_headOf 41 = .ok (.lload_n 3, 1) := by decide +kernel
theorem dX4_headOf_42 : decode cX4_headOf 42 = .ok (.invokevirtual 82, 3) := by decide +kernel
theorem dX4_headOf_45 : decode cX4_headOf 45 = .ok (.istore 5, 2) := by decide +kernel
theorem dX4_headOf_47 : decode cX4_headOf 47 = .ok (.iinc 6 1, 3) := by decide +kernel
theorem dX4_headOf_50 : decode cX4_headOf 50 = .ok (.goto (-38), 3) := by decide +kernel
theorem dX4_headOf_53 : decode cX4_headOf 53 = .ok (.iconst (-1), 1) := by decide +kernel
theorem dX4_headOf_54 : decode cX4_headOf 54 = .ok (.ireturn, 1) := by decide +kernel
theorem dX4_heirOf_0 : decode cX4_heirOf 0 = .ok (.iconst (-1), 1) := by decide +kernel
theorem dX4_heirOf_1 : decode cX4_heirOf 1 = .ok (.istore 4, 2) := by decide +kernel
theorem dX4_heirOf_3 : decode cX4_heirOf 3 = .ok (.iconst 0, 1) := by decide +kernel
theorem dX4_heirOf_4 : decode cX4_heirOf 4 = .ok (.istore 5, 2) := by decide +kernel
theorem dX4_heirOf_6 : decode cX4_heirOf 6 = .ok (.iload 5, 2) := by decide +kernel
theorem dX4_heirOf_8 : decode cX4_heirOf 8 = .ok (.aload_n 0, 1) := by decide +kernel
theorem dX4_heirOf_9 : decode cX4_heirOf 9 = .ok (.getfield 37, 3) := by decide +kernel
theorem dX4_heirOf_12 : decode cX4_heirOf 12 = .ok (.if_icmp .ge 73, 3) := by decide +kernel
theorem dX4_heirOf_15 : decode cX4_heirOf 15 = .ok (.aload_n 0, 1) := by decide +kernel
theorem dX4_heirOf_16 : decode cX4_heirOf 16 = .ok (.getfield 25, 3) := by decide +kernel
theorem dX4_heirOf_19 : decode cX4_heirOf 19 = .ok (.iload 5, 2) := by decide +kernel
theorem dX4_heirOf_21 : decode cX4_heirOf 21 = .ok (.iaload, 1) := by decide +kernel
theorem dX4_heirOf_22 : decode cX4_heirOf 22 = .ok (.iload_n 1, 1) := by decide +kernel
theorem dX4_heirOf_23 : decode cX4_heirOf 23 = .ok (.if_icmp .eq 14, 3) := by decide +kernel
theorem dX4_heirOf_26 : decode cX4_heirOf 26 = .ok (.aload_n 0, 1) := by decide +kernel
theorem dX4_heirOf_27 : decode cX4_heirOf 27 = .ok (.getfield 28, 3) := by decide +kernel
theorem dX4_heirOf_30 : decode cX4_heirOf 30 = .ok (.iload 5, 2) := by decide +kernel
theorem dX4_heirOf_32 : decode cX4_heirOf 32 = .ok (.iaload, 1) := by decide +kernel
theorem dX4_heirOf_33 : decode cX4_heirOf 33 = .ok (.iload_n 1, 1) := by decide +kernel
theorem dX4_heirOf_34 : decode cX4_heirOf 34 = .ok (.if_icmp .ne 16, 3) := by decide +kernel
theorem dX4_heirOf_37 : decode cX4_heirOf 37 = .ok (.lload_n 2, 1) := by decide +kernel
theorem dX4_heirOf_38 : decode cX4_heirOf 38 = .ok (.iload 5, 2) := by decide +kernel
theorem dX4_heirOf_40 : decode cX4_heirOf 40 = .ok (.invokestatic 64, 3) := by decide +kernel
theorem dX4_heirOf_43 : decode cX4_heirOf 43 = .ok (.ifCond .eq 7, 3) := by decide +kernel
theorem dX4_heirOf_46 : decode cX4_heirOf 46 = .ok (.iconst 1, 1) := by decide +kernel
theorem dX4_heirOf_47 : decode cX4_heirOf 47 = .ok (.goto 4, 3) := by decide +kernel
theorem dX4_heirOf_50 : decode cX4_heirOf 50 = .ok (.iconst 0, 1) := by decide +kernel
theorem dX4_heirOf_51 : decode cX4_heirOf 51 = .ok (.istore 6, 2) := by decide +kernel
theorem dX4_heirOf_53 : decode cX4_heirOf 53 = .ok (.iload 6, 2) := by decide +kernel
theorem dX4_heirOf_55 : decode cX4_heirOf 55 = .ok (.ifCond .eq 24, 3) := by decide +kernel
theorem dX4_heirOf_58 : decode cX4_heirOf 58 = .ok (.iload 4, 2) := by decide +kernel
theorem dX4_heirOf_60 : decode cX4_heirOf 60 = .ok (.iconst (-1), 1) := by decide +kernel
theorem dX4_heirOf_61 : decode cX4_heirOf 61 = .ok (.if_icmp .eq 14, 3) := by decide +kernel
theorem dX4_heirOf_64 : decode cX4_heirOf 64 = .ok (.aload_n 0, 1) := by decide +kernel
theorem dX4_heirOf_65 : decode cX4_heirOf 65 = .ok (.iload 5, 2) := by decide +kernel
theorem dX4_heirOf_67 : decode cX4_heirOf 67 = .ok (.iload 4, 2) := by decide +kernel
theorem dX4_heirOf_69 : decode cX4_heirOf 69 = .ok (.invokevirtual 75, 3) := by decide +kernel
theorem dX4_heirOf_72 : decode cX4_heirOf 72 = .ok (.ifCond .eq 7, 3) := by decide +kernel
theorem dX4_heirOf_75 : decode cX4_heirOf 75 = .ok (.iload 5, 2) := by decide +kernel
theorem dX4_heirOf_77 : decode cX4_heirOf 77 = .ok (.istore 4, 2) := by decide +kernel
theorem dX4_heirOf_79 : decode cX4_heirOf 79 = .ok (.iinc 5 1, 3) := by decide +kernel
theorem dX4_heirOf_82 : decode cX4_heirOf 82 = .ok (.goto (-76), 3) := by decide +kernel
theorem dX4_heirOf_85 : decode cX4_heirOf 85 = .ok (.iload 4, 2) := by decide +kernel
theorem dX4_heirOf_87 : decode cX4_heirOf 87 = .ok (.ireturn, 1) := by decide +kernel
theorem dX4_isHeiress_0 : decode cX4_isHeiress 0 = .ok (.aload_n 0, 1) := by decide +kernel
theorem dX4_isHeiress_1 : decode cX4_isHeiress 1 = .ok (.iload_n 1, 1) := by decide +kernel
theorem dX4_isHeiress_2 : decode cX4_isHeiress 2 = .ok (.invokevirtual 72, 3) := by decide +kernel
theorem dX4_isHeiress_5 : decode cX4_isHeiress 5 = .ok (.istore 5, 2) := by decide +kernel
theorem dX4_isHeiress_7 : decode cX4_isHeiress 7 = .ok (.aload_n 0, 1) := by decide +kernel
theorem dX4_isHeiress_8 : decode cX4_isHeiress 8 = .ok (.iload_n 1, 1) := by decide +kernel
end
section
theorem dX4_isHeiress_9 : decode cX4_isHeiress 9 = .ok (.invokevirtual 86, 3) := by decide +kernel
theorem dX4_isHeiress_12 : decode cX4_isHeiress 12 = .ok (.ifCond .eq 23, 3) := by decide +kernel
theorem dX4_isHeiress_15 : decode cX4_isHeiress 15 = .ok (.aload_n 0, 1) := by decide +kernel
theorem dX4_isHeiress_16 : decode cX4_isHeiress 16 = .ok (.iload 5, 2) := by decide +kernel
theorem dX4_isHeiress_18 : decode cX4_isHeiress 18 = .ok (.invokevirtual 58, 3) := by decide +kernel
theorem dX4_isHeiress_21 : decode cX4_isHeiress 21 = .ok (.ifCond .eq 14, 3) := by decide +kernel
theorem dX4_isHeiress_24 : decode cX4_isHeiress 24 = .ok (.aload_n 0, 1) := by decide +kernel
theorem dX4_isHeiress_25 : decode cX4_isHeiress 25 = .ok (.getfield 22, 3) := by decide +kernel
theorem dX4_isHeiress_28 : decode cX4_isHeiress 28 = .ok (.iload 5, 2) := by decide +kernel
theorem dX4_isHeiress_30 : decode cX4_isHeiress 30 = .ok (.iaload, 1) := by decide +kernel
theorem dX4_isHeiress_31 : decode cX4_isHeiress 31 = .ok (.iload_n 2, 1) := by decide +kernel
theorem dX4_isHeiress_32 : decode cX4_isHeiress 32 = .ok (.if_icmp .le 5, 3) := by decide +kernel
theorem dX4_isHeiress_35 : decode cX4_isHeiress 35 = .ok (.iconst 0, 1) := by decide +kernel
theorem dX4_isHeiress_36 : decode cX4_isHeiress 36 = .ok (.ireturn, 1) := by decide +kernel
theorem dX4_isHeiress_37 : decode cX4_isHeiress 37 = .ok (.iconst 0, 1) := by decide +kernel
theorem dX4_isHeiress_38 : decode cX4_isHeiress 38 = .ok (.istore 6, 2) := by decide +kernel
theorem dX4_isHeiress_40 : decode cX4_isHeiress 40 = .ok (.iload 6, 2) := by decide +kernel
theorem dX4_isHeiress_42 : decode cX4_isHeiress 42 = .ok (.aload_n 0, 1) := by decide +kernel
theorem dX4_isHeiress_43 : decode cX4_isHeiress 43 = .ok (.getfield 37, 3) := by decide +kernel
theorem dX4_isHeiress_46 : decode cX4_isHeiress 46 = .ok (.if_icmp .ge 32, 3) := by decide +kernel
theorem dX4_isHeiress_49 : decode cX4_isHeiress 49 = .ok (.aload_n 0, 1) := by decide +kernel
theorem dX4_isHeiress_50 : decode cX4_isHeiress 50 = .ok (.getfield 25, 3) := by decide +kernel
theorem dX4_isHeiress_53 : decode cX4_isHeiress 53 = .ok (.iload 6, 2) := by decide +kernel
theorem dX4_isHeiress_55 : decode cX4_isHeiress 55 = .ok (.iaload, 1) := by decide +kernel
theorem dX4_isHeiress_56 : decode cX4_isHeiress 56 = .ok (.iload 5, 2) := by decide +kernel
theorem dX4_isHeiress_58 : decode cX4_isHeiress 58 = .ok (.if_icmp .ne 14, 3) := by decide +kernel
theorem dX4_isHeiress_61 : decode cX4_isHeiress 61 = .ok (.lload_n 3, 1) := by decide +kernel
theorem dX4_isHeiress_62 : decode cX4_isHeiress 62 = .ok (.iload 6, 2) := by decide +kernel
theorem dX4_isHeiress_64 : decode cX4_isHeiress 64 = .ok (.invokestatic 64, 3) := by decide +kernel
theorem dX4_isHeiress_67 : decode cX4_isHeiress 67 = .ok (.ifCond .eq 5, 3) := by decide +kernel
theorem dX4_isHeiress_70 : decode cX4_isHeiress 70 = .ok (.iconst 0, 1) := by decide +kernel
theorem dX4_isHeiress_71 : decode cX4_isHeiress 71 = .ok (.ireturn, 1) := by decide +kernel
theorem dX4_isHeiress_72 : decode cX4_isHeiress 72 = .ok (.iinc 6 1, 3) := by decide +kernel
theorem dX4_isHeiress_75 : decode cX4_isHeiress 75 = .ok (.goto (-35), 3) := by decide +kernel
theorem dX4_isHeiress_78 : decode cX4_isHeiress 78 = .ok (.iconst 1, 1) := by decide +kernel
theorem dX4_isHeiress_79 : decode cX4_isHeiress 79 = .ok (.ireturn, 1) := by decide +kernel
theorem dX4_bringsQuarters_0 : decode cX4_bringsQuarters 0 = .ok (.aload_n 0, 1) := by decide +kernel
theorem dX4_bringsQuarters_1 : decode cX4_bringsQuarters 1 = .ok (.iload_n 1, 1) := by decide +kernel
theorem dX4_bringsQuarters_2 : decode cX4_bringsQuarters 2 = .ok (.iload_n 2, 1) := by decide +kernel
theorem dX4_bringsQuarters_3 : decode cX4_bringsQuarters 3 = .ok (.lload_n 3, 1) := by decide +kernel
theorem dX4_bringsQuarters_4 : decode cX4_bringsQuarters 4 = .ok (.invokevirtual 89, 3) := by decide +kernel
theorem dX4_bringsQuarters_7 : decode cX4_bringsQuarters 7 = .ok (.ifCond .eq 5, 3) := by decide +kernel
theorem dX4_bringsQuarters_10 : decode cX4_bringsQuarters 10 = .ok (.iconst 1, 1) := by decide +kernel
theorem dX4_bringsQuarters_11 : decode cX4_bringsQuarters 11 = .ok (.ireturn, 1) := by decide +kernel
theorem dX4_bringsQuarters_12 : decode cX4_bringsQuarters 12 = .ok (.aload_n 0, 1) := by decide +kernel
theorem dX4_bringsQuarters_13 : decode cX4_bringsQuarters 13 = .ok (.iload_n 1, 1) := by decide +kernel
theorem dX4_bringsQuarters_14 : decode cX4_bringsQuarters 14 = .ok (.invokevirtual 58, 3) := by decide +kernel
theorem dX4_bringsQuarters_17 : decode cX4_bringsQuarters 17 = .ok (.ifCond .eq 13, 3) := by decide +kernel
theorem dX4_bringsQuarters_20 : decode cX4_bringsQuarters 20 = .ok (.aload_n 0, 1) := by decide +kernel
theorem dX4_bringsQuarters_21 : decode cX4_bringsQuarters 21 = .ok (.getfield 22, 3) := by decide +kernel
theorem dX4_bringsQuarters_24 : decode cX4_bringsQuarters 24 = .ok (.iload_n 1, 1) := by decide +kernel
theorem dX4_bringsQuarters_25 : decode cX4_bringsQuarters 25 = .ok (.iaload, 1) := by decide +kernel
theorem dX4_bringsQuarters_26 : decode cX4_bringsQuarters 26 = .ok (.iload_n 2, 1) := by decide +kernel
theorem dX4_bringsQuarters_27 : decode cX4_bringsQuarters 27 = .ok (.if_icmp .le 5, 3) := by decide +kernel
theorem dX4_bringsQuarters_30 : decode cX4_bringsQuarters 30 = .ok (.iconst 0, 1) := by decide +kernel
theorem dX4_bringsQuarters_31 : decode cX4_bringsQuarters 31 = .ok (.ireturn, 1) := by decide +kernel
theorem dX4_bringsQuarters_32 : decode cX4_bringsQuarters 32 = .ok (.aload_n 0, 1) := by decide +kernel
theorem dX4_bringsQuarters_33 : decode cX4_bringsQuarters 33 = .ok (.getfield 22, 3) := by decide +kernel
theorem dX4_bringsQuarters_36 : decode cX4_bringsQuarters 36 = .ok (.iload_n 1, 1) := by decide +kernel
theorem dX4_bringsQuarters_37 : decode cX4_bringsQuarters 37 = .ok (.iaload, 1) := by decide +kernel
theorem dX4_bringsQuarters_38 : decode cX4_bringsQuarters 38 = .ok (.istore 5, 2) := by decide +kernel
theorem dX4_bringsQuarters_40 : decode cX4_bringsQuarters 40 = .ok (.aload_n 0, 1) := by decide +kernel
theorem dX4_bringsQuarters_41 : decode cX4_bringsQuarters 41 = .ok (.iload_n 1, 1) := by decide +kernel
theorem dX4_bringsQuarters_42 : decode cX4_bringsQuarters 42 = .ok (.iload 5, 2) := by decide +kernel
theorem dX4_bringsQuarters_44 : decode cX4_bringsQuarters 44 = .ok (.aload_n 0, 1) := by decide +kernel
theorem dX4_bringsQuarters_45 : decode cX4_bringsQuarters 45 = .ok (.iload 5, 2) := by decide +kernel
theorem dX4_bringsQuarters_47 : decode cX4_bringsQuarters 47 = .ok (.invokevirtual 78, 3) := by decide +kernel
theorem dX4_bringsQuarters_50 : decode cX4_bringsQuarters 50 = .ok (.invokevirtual 89, 3) := by decide +kernel
theorem dX4_bringsQuarters_53 : decode cX4_bringsQuarters 53 = .ok (.ireturn, 1) := by decide +kernel
theorem dX4_forebears_0 : decode cX4_forebears 0 = .ok (.aload_n 0, 1) := by decide +kernel
theorem dX4_forebears_1 : decode cX4_forebears 1 = .ok (.iload_n 1, 1) := by decide +kernel
theorem dX4_forebears_2 : decode cX4_forebears 2 = .ok (.invokevirtual 58, 3) := by decide +kernel
theorem dX4_forebears_5 : decode cX4_forebears 5 = .ok (.ifCond .eq 9, 3) := by decide +kernel
theorem dX4_forebears_8 : decode cX4_forebears 8 = .ok (.lconst 1, 1) := by decide +kernel
theorem dX4_forebears_9 : decode cX4_forebears 9 = .ok (.iload_n 1, 1) := by decide +kernel
theorem dX4_forebears_10 : decode cX4_forebears 10 = .ok (.lshl, 1) := by decide +kernel
theorem dX4_forebears_11 : decode cX4_forebears 11 = .ok (.goto 4, 3) := by decide +kernel
theorem dX4_forebears_14 : decode cX4_forebears 14 = .ok (.lconst 0, 1) := by decide +kernel
theorem dX4_forebears_15 : decode cX4_forebears 15 = .ok (.lstore_n 2, 1) := by decide +kernel
theorem dX4_forebears_16 : decode cX4_forebears 16 = .ok (.aload_n 0, 1) := by decide +kernel
theorem dX4_forebears_17 : decode cX4_forebears 17 = .ok (.getfield 37, 3) := by decide +kernel
theorem dX4_forebears_20 : decode cX4_forebears 20 = .ok (.iconst 1, 1) := by decide +kernel
theorem dX4_forebears_21 : decode cX4_forebears 21 = .ok (.isub, 1) := by decide +kernel
theorem dX4_forebears_22 : decode cX4_forebears 22 = .ok (.istore 4, 2) := by decide +kernel
theorem dX4_forebears_24 : decode cX4_forebears 24 = .ok (.iload 4, 2) := by decide +kernel
theorem dX4_forebears_26 : decode cX4_forebears 26 = .ok (.ifCond .lt 73, 3) := by decide +kernel
theorem dX4_forebears_29 : decode cX4_forebears 29 = .ok (.lload_n 2, 1) := by decide +kernel
theorem dX4_forebears_30 : decode cX4_forebears 30 = .ok (.iload 4, 2) := by decide +kernel
theorem dX4_forebears_32 : decode cX4_forebears 32 = .ok (.invokestatic 64, 3) := by decide +kernel
theorem dX4_forebears_35 : decode cX4_forebears 35 = .ok (.ifCond .eq 26, 3) := by decide +kernel
theorem dX4_forebears_38 : decode cX4_forebears 38 = .ok (.aload_n 0, 1) := by decide +kernel
theorem dX4_forebears_39 : decode cX4_forebears 39 = .ok (.getfield 25, 3) := by decide +kernel
theorem dX4_forebears_42 : decode cX4_forebears 42 = .ok (.iload 4, 2) := by decide +kernel
theorem dX4_forebears_44 : decode cX4_forebears 44 = .ok (.iaload, 1) := by decide +kernel
theorem dX4_forebears_45 : decode cX4_forebears 45 = .ok (.iconst (-1), 1) := by decide +kernel
theorem dX4_forebears_46 : decode cX4_forebears 46 = .ok (.if_icmp .eq 15, 3) := by decide +kernel
theorem dX4_forebears_49 : decode cX4_forebears 49 = .ok (.lload_n 2, 1) := by decide +kernel
theorem dX4_forebears_50 : decode cX4_forebears 50 = .ok (.lconst 1, 1) := by decide +kernel
theorem dX4_forebears_51 : decode cX4_forebears 51 = .ok (.aload_n 0, 1) := by decide +kernel
theorem dX4_forebears_52 : decode cX4_forebears 52 = .ok (.getfield 25, 3) := by decide +kernel
theorem dX4_forebears_55 : decode cX4_forebears 55 = .ok (.iload 4, 2) := by decide +kernel
theorem dX4_forebears_57 : decode cX4_forebears 57 = .ok (.iaload, 1) := by decide +kernel
theorem dX4_forebears_58 : decode cX4_forebears 58 = .ok (.lshl, 1) := by decide +kernel
theorem dX4_forebears_59 : decode cX4_forebears 59 = .ok (.lor, 1) := by decide +kernel
theorem dX4_forebears_60 : decode cX4_forebears 60 = .ok (.lstore_n 2, 1) := by decide +kernel
theorem dX4_forebears_61 : decode cX4_forebears 61 = .ok (.lload_n 2, 1) := by decide +kernel
theorem dX4_forebears_62 : decode cX4_forebears 62 = .ok (.iload 4, 2) := by decide +kernel
theorem dX4_forebears_64 : decode cX4_forebears 64 = .ok (.invokestatic 64, 3) := by decide +kernel
theorem dX4_forebears_67 : decode cX4_forebears 67 = .ok (.ifCond .eq 26, 3) := by decide +kernel
theorem dX4_forebears_70 : decode cX4_forebears 70 = .ok (.aload_n 0, 1) := by decide +kernel
theorem dX4_forebears_71 : decode cX4_forebears 71 = .ok (.getfield 28, 3) := by decide +kernel
theorem dX4_forebears_74 : decode cX4_forebears 74 = .ok (.iload 4, 2) := by decide +kernel
theorem dX4_forebears_76 : decode cX4_forebears 76 = .ok (.iaload, 1) := by decide +kernel
theorem dX4_forebears_77 : decode cX4_forebears 77 = .ok (.iconst (-1), 1) := by decide +kernel
theorem dX4_forebears_78 : decode cX4_forebears 78 = .ok (.if_icmp .eq 15, 3) := by decide +kernel
theorem dX4_forebears_81 : decode cX4_forebears 81 = .ok (.lload_n 2, 1) := by decide +kernel
theorem dX4_forebears_82 : decode cX4_forebears 82 = .ok (.lconst 1, 1) := by decide +kernel
theorem dX4_forebears_83 : decode cX4_forebears 83 = .ok (.aload_n 0, 1) := by decide +kernel
theorem dX4_forebears_84 : decode cX4_forebears 84 = .ok (.getfield 28, 3) := by decide +kernel
theorem dX4_forebears_87 : decode cX4_forebears 87 = .ok (.iload 4, 2) := by decide +kernel
theorem dX4_forebears_89 : decode cX4_forebears 89 = .ok (.iaload, 1) := by decide +kernel
theorem dX4_forebears_90 : decode cX4_forebears 90 = .ok (.lshl, 1) := by decide +kernel
theorem dX4_forebears_91 : decode cX4_forebears 91 = .ok (.lor, 1) := by decide +kernel
theorem dX4_forebears_92 : decode cX4_forebears 92 = .ok (.lstore_n 2, 1) := by decide +kernel
theorem dX4_forebears_93 : decode cX4_forebears 93 = .ok (.iinc 4 (-1), 3) := by decide +kernel
theorem dX4_forebears_96 : decode cX4_forebears 96 = .ok (.goto (-72), 3) := by decide +kernel
theorem dX4_forebears_99 : decode cX4_forebears 99 = .ok (.lload_n 2, 1) := by decide +kernel
theorem dX4_forebears_100 : decode cX4_forebears 100 = .ok (.lreturn, 1) := by decide +kernel
end
section
theorem dX5_init_0 : decode cX5_init 0 = .ok (.aload_n 0, 1) := by decide +kernel
theorem dX5_init_1 : decode cX5_init 1 = .ok (.invokespecial 3, 3) := by decide +kernel
theorem dX5_init_4 : decode cX5_init 4 = .ok (.aload_n 0, 1) := by decide +kernel
theorem dX5_init_5 : decode cX5_init 5 = .ok (.bipush 60, 2) := by decide +kernel
theorem dX5_init_7 : decode cX5_init 7 = .ok (.newarray .int, 2) := by decide +kernel
theorem dX5_init_9 : decode cX5_init 9 = .ok (.putfield 11, 3) := by decide +kernel
theorem dX5_init_12 : decode cX5_init 12 = .ok (.aload_n 0, 1) := by decide +kernel
theorem dX5_init_13 : decode cX5_init 13 = .ok (.iconst (-1), 1) := by decide +kernel
theorem dX5_init_14 : decode cX5_init 14 = .ok (.putfield 17, 3) := by decide +kernel
theorem dX5_init_17 : decode cX5_init 17 = .ok (.aload_n 0, 1) := by decide +kernel
theorem dX5_init_18 : decode cX5_init 18 = .ok (.iconst (-1), 1) := by decide +kernel
theorem dX5_init_19 : decode cX5_init 19 = .ok (.putfield 21, 3) := by decide +kernel
theorem dX5_init_22 : decode cX5_init 22 = .ok (.aload_n 0, 1) := by decide +kernel
theorem dX5_init_23 : decode cX5_init 23 = .ok (.iconst (-1), 1) := by decide +kernel
theorem dX5_init_24 : decode cX5_init 24 = .ok (.putfield 24, 3) := by decide +kernel
theorem dX5_init_27 : decode cX5_init 27 = .ok (.aload_n 0, 1) := by decide +kernel
theorem dX5_init_28 : decode cX5_init 28 = .ok (.iconst (-1), 1) := by decide +kernel
theorem dX5_init_29 : decode cX5_init 29 = .ok (.putfield 27, 3) := by decide +kernel
theorem dX5_init_32 : decode cX5_init 32 = .ok (.aload_n 0, 1) := by decide +kernel
theorem dX5_init_33 : decode cX5_init 33 = .ok (.iconst 0, 1) := by decide +kernel
theorem dX5_init_34 : decode cX5_init 34 = .ok (.putfield 30, 3) := by decide +kernel
theorem dX5_init_37 : decode cX5_init 37 = .ok (.return_, 1) := by decide +kernel
theorem dX5_find_0 : decode cX5_find 0 = .ok (.aload_n 0, 1) := by decide +kernel
theorem dX5_find_1 : decode cX5_find 1 = .ok (.iconst (-1), 1) := by decide +kernel
theorem dX5_find_2 : decode cX5_find 2 = .ok (.putfield 17, 3) := by decide +kernel
theorem dX5_find_5 : decode cX5_find 5 = .ok (.aload_n 0, 1) := by decide +kernel
theorem dX5_find_6 : decode cX5_find 6 = .ok (.iconst (-1), 1) := by decide +kernel
theorem dX5_find_7 : decode cX5_find 7 = .ok (.putfield 21, 3) := by decide +kernel
theorem dX5_find_10 : decode cX5_find 10 = .ok (.aload_n 0, 1) := by decide +kernel
theorem dX5_find_11 : decode cX5_find 11 = .ok (.iconst (-1), 1) := by decide +kernel
theorem dX5_find_12 : decode cX5_find 12 = .ok (.putfield 24, 3) := by decide +kernel
theorem dX5_find_15 : decode cX5_find 15 = .ok (.aload_n 0, 1) := by decide +kernel
theorem dX5_find_16 : decode cX5_find 16 = .ok (.iconst (-1), 1) := by decide +kernel
theorem dX5_find_17 : decode cX5_find 17 = .ok (.putfield 27, 3) := by decide +kernel
theorem dX5_find_20 : decode cX5_find 20 = .ok (.aload_n 0, 1) := by decide +kernel
theorem dX5_find_21 : decode cX5_find 21 = .ok (.iconst 0, 1) := by decide +kernel
theorem dX5_find_22 : decode cX5_find 22 = .ok (.putfield 30, 3) := by decide +kernel
theorem dX5_find_25 : decode cX5_find 25 = .ok (.aload_n 0, 1) := by decide +kernel
theorem dX5_find_26 : decode cX5_find 26 = .ok (.aload_n 1, 1) := by decide +kernel
theorem dX5_find_27 : decode cX5_find 27 = .ok (.aload_n 2, 1) := by decide +kernel
theorem dX5_find_28 : decode cX5_find 28 = .ok (.iload_n 3, 1) := by decide +kernel
theorem dX5_find_29 : decode cX5_find 29 = .ok (.iload 4, 2) := by decide +kernel
theorem dX5_find_31 : decode cX5_find 31 = .ok (.invokevirtual 33, 3) := by decide +kernel
theorem dX5_find_34 : decode cX5_find 34 = .ok (.aload_n 0, 1) := by decide +kernel
theorem dX5_find_35 : decode cX5_find 35 = .ok (.getfield 21, 3) := by decide +kernel
theorem dX5_find_38 : decode cX5_find 38 = .ok (.iconst (-1), 1) := by decide +kernel
theorem dX5_find_39 : decode cX5_find 39 = .ok (.if_icmp .eq 15, 3) := by decide +kernel
theorem dX5_find_42 : decode cX5_find 42 = .ok (.aload_n 0, 1) := by decide +kernel
theorem dX5_find_43 : decode cX5_find 43 = .ok (.aload_n 1, 1) := by decide +kernel
theorem dX5_find_44 : decode cX5_find 44 = .ok (.iload_n 3, 1) := by decide +kernel
theorem dX5_find_45 : decode cX5_find 45 = .ok (.aload_n 1, 1) := by decide +kernel
theorem dX5_find_46 : decode cX5_find 46 = .ok (.iload 4, 2) := by decide +kernel
theorem dX5_find_48 : decode cX5_find 48 = .ok (.invokevirtual 37, 3) := by decide +kernel
theorem dX5_find_51 : decode cX5_find 51 = .ok (.invokevirtual 41, 3) := by decide +kernel
theorem dX5_find_54 : decode cX5_find 54 = .ok (.return_, 1) := by decide +kernel
theorem dX5_climb_0 : decode cX5_climb 0 = .ok (.bipush 9, 2) := by decide +kernel
theorem dX5_climb_2 : decode cX5_climb 2 = .ok (.istore 5, 2) := by decide +kernel
theorem dX5_climb_4 : decode cX5_climb 4 = .ok (.iload_n 3, 1) := by decide +kernel
theorem dX5_climb_5 : decode cX5_climb 5 = .ok (.istore 6, 2) := by decide +kernel
theorem dX5_climb_7 : decode cX5_climb 7 = .ok (.iconst 0, 1) := by decide +kernel
theorem dX5_climb_8 : decode cX5_climb 8 = .ok (.istore 7, 2) := by decide +kernel
theorem dX5_climb_10 : decode cX5_climb 10 = .ok (.iload 7, 2) := by decide +kernel
theorem dX5_climb_12 : decode cX5_climb 12 = .ok (.bipush 60, 2) := by decide +kernel
theorem dX5_climb_14 : decode cX5_climb 14 = .ok (.if_icmp .ge 77, 3) := by decide +kernel
theorem dX5_climb_17 : decode cX5_climb 17 = .ok (.iload 6, 2) := by decide +kernel
theorem dX5_climb_19 : decode cX5_climb 19 = .ok (.iconst (-1), 1) := by decide +kernel
theorem dX5_climb_20 : decode cX5_climb 20 = .ok (.if_icmp .eq 71, 3) := by decide +kernel
theorem dX5_climb_23 : decode cX5_climb 23 = .ok (.aload_n 2, 1) := by decide +kernel
theorem dX5_climb_24 : decode cX5_climb 24 = .ok (.iload 6, 2) := by decide +kernel
theorem dX5_climb_26 : decode cX5_climb 26 = .ok (.iload 4, 2) := by decide +kernel
theorem dX5_climb_28 : decode cX5_climb 28 = .ok (.invokevirtual 45, 3) := by decide +kernel
theorem dX5_climb_31 : decode cX5_climb 31 = .ok (.istore 8, 2) := by decide +kernel
theorem dX5_climb_33 : decode cX5_climb 33 = .ok (.iload 8, 2) := by decide +kernel
theorem dX5_climb_35 : decode cX5_climb 35 = .ok (.iconst (-1), 1) := by decide +kernel
theorem dX5_climb_36 : decode cX5_climb 36 = .ok (.if_icmp .eq 28, 3) := by decide +kernel
theorem dX5_climb_39 : decode cX5_climb 39 = .ok (.aload_n 0, 1) := by decide +kernel
theorem dX5_climb_40 : decode cX5_climb 40 = .ok (.iload 8, 2) := by decide +kernel
theorem dX5_climb_42 : decode cX5_climb 42 = .ok (.putfield 17, 3) := by decide +kernel
theorem dX5_climb_45 : decode cX5_climb 45 = .ok (.aload_n 0, 1) := by decide +kernel
theorem dX5_climb_46 : decode cX5_climb 46 = .ok (.iload 6, 2) := by decide +kernel
theorem dX5_climb_48 : decode cX5_climb 48 = .ok (.putfield 21, 3) := by decide +kernel
theorem dX5_climb_51 : decode cX5_climb 51 = .ok (.aload_n 0, 1) := by decide +kernel
theorem dX5_climb_52 : decode cX5_climb 52 = .ok (.iload 7, 2) := by decide +kernel
theorem dX5_climb_54 : decode cX5_climb 54 = .ok (.putfield 24, 3) := by decide +kernel
theorem dX5_climb_57 : decode cX5_climb 57 = .ok (.aload_n 0, 1) := by decide +kernel
theorem dX5_climb_58 : decode cX5_climb 58 = .ok (.iload 5, 2) := by decide +kernel
theorem dX5_climb_60 : decode cX5_climb 60 = .ok (.putfield 27, 3) := by decide +kernel
theorem dX5_climb_63 : decode cX5_climb 63 = .ok (.return_, 1) := by decide +kernel
theorem dX5_climb_64 : decode cX5_climb 64 = .ok (.iload 5, 2) := by decide +kernel
theorem dX5_climb_66 : decode cX5_climb 66 = .ok (.aload_n 1, 1) := by decide +kernel
theorem dX5_climb_67 : decode cX5_climb 67 = .ok (.iload 6, 2) := by decide +kernel
theorem dX5_climb_69 : decode cX5_climb 69 = .ok (.invokevirtual 51, 3) := by decide +kernel
theorem dX5_climb_72 : decode cX5_climb 72 = .ok (.invokestatic 55, 3) := by decide +kernel
theorem dX5_climb_75 : decode cX5_climb 75 = .ok (.istore 5, 2) := by decide +kernel
theorem dX5_climb_77 : decode cX5_climb 77 = .ok (.aload_n 1, 1) := by decide +kernel
theorem dX5_climb_78 : decode cX5_climb 78 = .ok (.iload 6, 2) := by decide +kernel
theorem dX5_climb_80 : decode cX5_climb 80 = .ok (.invokevirtual 60, 3) := by decide +kernel
theorem dX5_climb_83 : decode cX5_climb 83 = .ok (.istore 6, 2) := by decide +kernel
theorem dX5_climb_85 : decode cX5_climb 85 = .ok (.iinc 7 1, 3) := by decide +kernel
theorem dX5_climb_88 : decode cX5_climb 88 = .ok (.goto (-78), 3) := by decide +kernel
theorem dX5_climb_91 : decode cX5_climb 91 = .ok (.return_, 1) := by decide +kernel
theorem dX5_setMarks_0 : decode cX5_setMarks 0 = .ok (.iload_n 2, 1) := by decide +kernel
theorem dX5_setMarks_1 : decode cX5_setMarks 1 = .ok (.istore 5, 2) := by decide +kernel
theorem dX5_setMarks_3 : decode cX5_setMarks 3 = .ok (.aload_n 0, 1) := by decide +kernel
theorem dX5_setMarks_4 : decode cX5_setMarks 4 = .ok (.getfield 24, 3) := by decide +kernel
theorem dX5_setMarks_7 : decode cX5_setMarks 7 = .ok (.bipush 60, 2) := by decide +kernel
theorem dX5_setMarks_9 : decode cX5_setMarks 9 = .ok (.invokestatic 55, 3) := by decide +kernel
theorem dX5_setMarks_12 : decode cX5_setMarks 12 = .ok (.iconst 1, 1) := by decide +kernel
theorem dX5_setMarks_13 : decode cX5_setMarks 13 = .ok (.isub, 1) := by decide +kernel
theorem dX5_setMarks_14 : decode cX5_setMarks 14 = .ok (.istore 6, 2) := by decide +kernel
theorem dX5_setMarks_16 : decode cX5_setMarks 16 = .ok (.iload 6, 2) := by decide +kernel
theorem dX5_setMarks_18 : decode cX5_setMarks 18 = .ok (.ifCond .lt 52, 3) := by decide +kernel
theorem dX5_setMarks_21 : decode cX5_setMarks 21 = .ok (.aload_n 0, 1) := by decide +kernel
theorem dX5_setMarks_22 : decode cX5_setMarks 22 = .ok (.getfield 11, 3) := by decide +kernel
theorem dX5_setMarks_25 : decode cX5_setMarks 25 = .ok (.iload 6, 2) := by decide +kernel
theorem dX5_setMarks_27 : decode cX5_setMarks 27 = .ok (.aload_n 1, 1) := by decide +kernel
theorem dX5_setMarks_28 : decode cX5_setMarks 28 = .ok (.iload 5, 2) := by decide +kernel
theorem dX5_setMarks_30 : decode cX5_setMarks 30 = .ok (.lload_n 3, 1) := by decide +kernel
theorem dX5_setMarks_31 : decode cX5_setMarks 31 = .ok (.invokevirtual 63, 3) := by decide +kernel
theorem dX5_setMarks_34 : decode cX5_setMarks 34 = .ok (.iastore, 1) := by decide +kernel
theorem dX5_setMarks_35 : decode cX5_setMarks 35 = .ok (.aload_n 0, 1) := by decide +kernel
theorem dX5_setMarks_36 : decode cX5_setMarks 36 = .ok (.getfield 11, 3) := by decide +kernel
theorem dX5_setMarks_39 : decode cX5_setMarks 39 = .ok (.iload 6, 2) := by decide +kernel
theorem dX5_setMarks_41 : decode cX5_setMarks 41 = .ok (.iaload, 1) := by decide +kernel
theorem dX5_setMarks_42 : decode cX5_setMarks 42 = .ok (.iconst 1, 1) := by decide +kernel
theorem dX5_setMarks_43 : decode cX5_setMarks 43 = .ok (.if_icmp .le 13, 3) := by decide +kernel
theorem dX5_setMarks_46 : decode cX5_setMarks 46 = .ok (.aload_n 0, 1) := by decide +kernel
theorem dX5_setMarks_47 : decode cX5_setMarks 47 = .ok (.dup, 1) := by decide +kernel
theorem dX5_setMarks_48 : decode cX5_setMarks 48 = .ok (.getfield 30, 3) := by decide +kernel
theorem dX5_setMarks_51 : decode cX5_setMarks 51 = .ok (.iconst 1, 1) := by decide +kernel
theorem dX5_setMarks_52 : decode cX5_setMarks 52 = .ok (.iadd, 1) := by decide +kernel
theorem dX5_setMarks_53 : decode cX5_setMarks 53 = .ok (.putfield 30, 3) := by decide +kernel
theorem dX5_setMarks_56 : decode cX5_setMarks 56 = .ok (.aload_n 1, 1) := by decide +kernel
theorem dX5_setMarks_57 : decode cX5_setMarks 57 = .ok (.iload 5, 2) := by decide +kernel
theorem dX5_setMarks_59 : decode cX5_setMarks 59 = .ok (.invokevirtual 60, 3) := by decide +kernel
theorem dX5_setMarks_62 : decode cX5_setMarks 62 = .ok (.istore 5, 2) := by decide +kernel
theorem dX5_setMarks_64 : decode cX5_setMarks 64 = .ok (.iinc 6 (-1), 3) := by decide +kernel
theorem dX5_setMarks_67 : decode cX5_setMarks 67 = .ok (.goto (-51), 3) := by decide +kernel
theorem dX5_setMarks_70 : decode cX5_setMarks 70 = .ok (.return_, 1) := by decide +kernel
theorem dX5_markAt_0 : decode cX5_markAt 0 = .ok (.iload_n 1, 1) := by decide +kernel
theorem dX5_markAt_1 : decode cX5_markAt 1 = .ok (.ifCond .lt 18, 3) := by decide +kernel
theorem dX5_markAt_4 : decode cX5_markAt 4 = .ok (.iload_n 1, 1) := by decide +kernel
theorem dX5_markAt_5 : decode cX5_markAt 5 = .ok (.bipush 60, 2) := by decide +kernel
theorem dX5_markAt_7 : decode cX5_markAt 7 = .ok (.if_icmp .ge 12, 3) := by decide +kernel
theorem dX5_markAt_10 : decode cX5_markAt 10 = .ok (.aload_n 0, 1) := by decide +kernel
theorem dX5_markAt_11 : decode cX5_markAt 11 = .ok (.getfield 11, 3) := by decide +kernel
theorem dX5_markAt_14 : decode cX5_markAt 14 = .ok (.iload_n 1, 1) := by decide +kernel
theorem dX5_markAt_15 : decode cX5_markAt 15 = .ok (.iaload, 1) := by decide +kernel
theorem dX5_markAt_16 : decode cX5_markAt 16 = .ok (.goto 4, 3) := by decide +kernel
theorem dX5_markAt_19 : decode cX5_markAt 19 = .ok (.iconst (-1), 1) := by decide +kernel
theorem dX5_markAt_20 : decode cX5_markAt 20 = .ok (.ireturn, 1) := by decide +kernel
theorem dX5_isPlain_0 : decode cX5_isPlain 0 = .ok (.aload_n 0, 1) := by decide +kernel
theorem dX5_isPlain_1 : decode cX5_isPlain 1 = .ok (.getfield 17, 3) := by decide +kernel
theorem dX5_isPlain_4 : decode cX5_isPlain 4 = .ok (.iconst (-1), 1) := by decide +kernel
theorem dX5_isPlain_5 : decode cX5_isPlain 5 = .ok (.if_icmp .eq 14, 3) := by decide +kernel
theorem dX5_isPlain_8 : decode cX5_isPlain 8 = .ok (.aload_n 0, 1) := by decide +kernel
theorem dX5_isPlain_9 : decode cX5_isPlain 9 = .ok (.getfield 30, 3) := by decide +kernel
theorem dX5_isPlain_12 : decode cX5_isPlain 12 = .ok (.ifCond .ne 7, 3) := by decide +kernel
theorem dX5_isPlain_15 : decode cX5_isPlain 15 = .ok (.iconst 1, 1) := by decide +kernel
theorem dX5_isPlain_16 : decode cX5_isPlain 16 = .ok (.goto 4, 3) := by decide +kernel
theorem dX5_isPlain_19 : decode cX5_isPlain 19 = .ok (.iconst 0, 1) := by decide +kernel
theorem dX5_isPlain_20 : decode cX5_isPlain 20 = .ok (.ireturn, 1) := by decide +kernel
end
section
theorem dX6_init_0 : decode cX6_init 0 = .ok (.aload_n 0, 1) := by decide +kernel
theorem dX6_init_1 : decode cX6_init 1 = .ok (.invokespecial 3, 3) := by decide +kernel
theorem dX6_init_4 : decode cX6_init 4 = .ok (.aload_n 0, 1) := by decide +kernel
theorem dX6_init_5 : decode cX6_init 5 = .ok (.sipush 720, 3) := by decide +kernel
theorem dX6_init_8 : decode cX6_init 8 = .ok (.newarray .int, 2) := by decide +kernel
theorem dX6_init_10 : decode cX6_init 10 = .ok (.putfield 13, 3) := by decide +kernel
theorem dX6_init_13 : decode cX6_init 13 = .ok (.aload_n 0, 1) := by decide +kernel
theorem dX6_init_14 : decode cX6_init 14 = .ok (.bipush 60, 2) := by decide +kernel
theorem dX6_init_16 : decode cX6_init 16 = .ok (.newarray .int, 2) := by decide +kernel
theorem dX6_init_18 : decode cX6_init 18 = .ok (.putfield 17, 3) := by decide +kernel
theorem dX6_init_21 : decode cX6_init 21 = .ok (.return_, 1) := by decide +kernel
theorem dX6_fill_0 : decode cX6_fill 0 = .ok (.aload_n 1, 1) := by decide +kernel
theorem dX6_fill_1 : decode cX6_fill 1 = .ok (.iload 4, 2) := by decide +kernel
theorem dX6_fill_3 : decode cX6_fill 3 = .ok (.invokevirtual 20, 3) := by decide +kernel
theorem dX6_fill_6 : decode cX6_fill 6 = .ok (.lstore 5, 2) := by decide +kernel
theorem dX6_fill_8 : decode cX6_fill 8 = .ok (.aload_n 1, 1) := by decide +kernel
theorem dX6_fill_9 : decode cX6_fill 9 = .ok (.iload_n 3, 1) := by decide +kernel
theorem dX6_fill_10 : decode cX6_fill 10 = .ok (.invokevirtual 24, 3) := by decide +kernel
theorem dX6_fill_13 : decode cX6_fill 13 = .ok (.lstore 7, 2) := by decide +kernel
theorem dX6_fill_15 : decode cX6_fill 15 = .ok (.iconst 0, 1) := by decide +kernel
theorem dX6_fill_16 : decode cX6_fill 16 = .ok (.istore 9, 2) := by decide +kernel
theorem dX6_fill_18 : decode cX6_fill 18 = .ok (.iload 9, 2) := by decide +kernel
theorem dX6_fill_20 : decode cX6_fill 20 = .ok (.bipush 60, 2) := by decide +kernel
theorem dX6_fill_22 : decode cX6_fill 22 = .ok (.if_icmp .ge 88, 3) := by decide +kernel
theorem dX6_fill_25 : decode cX6_fill 25 = .ok (.lload 7, 2) := by decide +kernel
theorem dX6_fill_27 : decode cX6_fill 27 = .ok (.iload 9, 2) := by decide +kernel
theorem dX6_fill_29 : decode cX6_fill 29 = .ok (.invokestatic 27, 3) := by decide +kernel
theorem dX6_fill_32 : decode cX6_fill 32 = .ok (.ifCond .eq 72, 3) := by decide +kernel
theorem dX6_fill_35 : decode cX6_fill 35 = .ok (.aload_n 0, 1) := by decide +kernel
theorem dX6_fill_36 : decode cX6_fill 36 = .ok (.getfield 17, 3) := by decide +kernel
theorem dX6_fill_39 : decode cX6_fill 39 = .ok (.iload 9, 2) := by decide +kernel
theorem dX6_fill_41 : decode cX6_fill 41 = .ok (.iconst 0, 1) := by decide +kernel
theorem dX6_fill_42 : decode cX6_fill 42 = .ok (.iastore, 1) := by decide +kernel
theorem dX6_fill_43 : decode cX6_fill 43 = .ok (.aload_n 0, 1) := by decide +kernel
theorem dX6_fill_44 : decode cX6_fill 44 = .ok (.iload 9, 2) := by decide +kernel
theorem dX6_fill_46 : decode cX6_fill 46 = .ok (.aload_n 1, 1) := by decide +kernel
theorem dX6_fill_47 : decode cX6_fill 47 = .ok (.iload 9, 2) := by decide +kernel
theorem dX6_fill_49 : decode cX6_fill 49 = .ok (.invokevirtual 31, 3) := by decide +kernel
theorem dX6_fill_52 : decode cX6_fill 52 = .ok (.invokevirtual 35, 3) := by decide +kernel
theorem dX6_fill_55 : decode cX6_fill 55 = .ok (.aload_n 0, 1) := by decide +kernel
theorem dX6_fill_56 : decode cX6_fill 56 = .ok (.iload 9, 2) := by decide +kernel
theorem dX6_fill_58 : decode cX6_fill 58 = .ok (.aload_n 2, 1) := by decide +kernel
theorem dX6_fill_59 : decode cX6_fill 59 = .ok (.iload 9, 2) := by decide +kernel
theorem dX6_fill_61 : decode cX6_fill 61 = .ok (.iload 4, 2) := by decide +kernel
theorem dX6_fill_63 : decode cX6_fill 63 = .ok (.invokevirtual 39, 3) := by decide +kernel
theorem dX6_fill_66 : decode cX6_fill 66 = .ok (.invokevirtual 45, 3) := by decide +kernel
theorem dX6_fill_69 : decode cX6_fill 69 = .ok (.aload_n 1, 1) := by decide +kernel
theorem dX6_fill_70 : decode cX6_fill 70 = .ok (.iload 9, 2) := by decide +kernel
theorem dX6_fill_72 : decode cX6_fill 72 = .ok (.invokevirtual 48, 3) := by decide +kernel
theorem dX6_fill_75 : decode cX6_fill 75 = .ok (.istore 10, 2) := by decide +kernel
theorem dX6_fill_77 : decode cX6_fill 77 = .ok (.iload 10, 2) := by decide +kernel
theorem dX6_fill_79 : decode cX6_fill 79 = .ok (.iconst (-1), 1) := by decide +kernel
theorem dX6_fill_80 : decode cX6_fill 80 = .ok (.if_icmp .eq 24, 3) := by decide +kernel
theorem dX6_fill_83 : decode cX6_fill 83 = .ok (.aload_n 1, 1) := by decide +kernel
theorem dX6_fill_84 : decode cX6_fill 84 = .ok (.iload 10, 2) := by decide +kernel
theorem dX6_fill_86 : decode cX6_fill 86 = .ok (.iload 4, 2) := by decide +kernel
theorem dX6_fill_88 : decode cX6_fill 88 = .ok (.lload 5, 2) := by decide +kernel
theorem dX6_fill_90 : decode cX6_fill 90 = .ok (.invokevirtual 51, 3) := by decide +kernel
theorem dX6_fill_93 : decode cX6_fill 93 = .ok (.ifCond .eq 11, 3) := by decide +kernel
theorem dX6_fill_96 : decode cX6_fill 96 = .ok (.aload_n 0, 1) := by decide +kernel
theorem dX6_fill_97 : decode cX6_fill 97 = .ok (.iload 9, 2) := by decide +kernel
theorem dX6_fill_99 : decode cX6_fill 99 = .ok (.iload 10, 2) := by decide +kernel
theorem dX6_fill_101 : decode cX6_fill 101 = .ok (.invokevirtual 35, 3) := by decide +kernel
theorem dX6_fill_104 : decode cX6_fill 104 = .ok (.iinc 9 1, 3) := by decide +kernel
theorem dX6_fill_107 : decode cX6_fill 107 = .ok (.goto (-89), 3) := by decide +kernel
theorem dX6_fill_110 : decode cX6_fill 110 = .ok (.return_, 1) := by decide +kernel
theorem dX6_addRow_0 : decode cX6_addRow 0 = .ok (.aload_n 0, 1) := by decide +kernel
theorem dX6_addRow_1 : decode cX6_addRow 1 = .ok (.iload_n 2, 1) := by decide +kernel
theorem dX6_addRow_2 : decode cX6_addRow 2 = .ok (.invokevirtual 55, 3) := by decide +kernel
theorem dX6_addRow_5 : decode cX6_addRow 5 = .ok (.istore_n 3, 1) := by decide +kernel
theorem dX6_addRow_6 : decode cX6_addRow 6 = .ok (.iconst 0, 1) := by decide +kernel
theorem dX6_addRow_7 : decode cX6_addRow 7 = .ok (.istore 4, 2) := by decide +kernel
theorem dX6_addRow_9 : decode cX6_addRow 9 = .ok (.iload 4, 2) := by decide +kernel
theorem dX6_addRow_11 : decode cX6_addRow 11 = .ok (.iload_n 3, 1) := by decide +kernel
theorem dX6_addRow_12 : decode cX6_addRow 12 = .ok (.if_icmp .ge 21, 3) := by decide +kernel
theorem dX6_addRow_15 : decode cX6_addRow 15 = .ok (.aload_n 0, 1) := by decide +kernel
theorem dX6_addRow_16 : decode cX6_addRow 16 = .ok (.iload_n 1, 1) := by decide +kernel
theorem dX6_addRow_17 : decode cX6_addRow 17 = .ok (.aload_n 0, 1) := by decide +kernel
theorem dX6_addRow_18 : decode cX6_addRow 18 = .ok (.iload_n 2, 1) := by decide +kernel
theorem dX6_addRow_19 : decode cX6_addRow 19 = .ok (.iload 4, 2) := by decide +kernel
theorem dX6_addRow_21 : decode cX6_addRow 21 = .ok (.invokevirtual 58, 3) := by decide +kernel
theorem dX6_addRow_24 : decode cX6_addRow 24 = .ok (.invokevirtual 45, 3) := by decide +kernel
theorem dX6_addRow_27 : decode cX6_addRow 27 = .ok (.iinc 4 1, 3) := by decide +kernel
theorem dX6_addRow_30 : decode cX6_addRow 30 = .ok (.goto (-21), 3) := by decide +kernel
theorem dX6_addRow_33 : decode cX6_addRow 33 = .ok (.return_, 1) := by decide +kernel
theorem dX6_addArms_0 : decode cX6_addArms 0 = .ok (.aload_n 0, 1) := by decide +kernel
theorem dX6_addArms_1 : decode cX6_addArms 1 = .ok (.iload_n 1, 1) := by decide +kernel
theorem dX6_addArms_2 : decode cX6_addArms 2 = .ok (.invokevirtual 55, 3) := by decide +kernel
theorem dX6_addArms_5 : decode cX6_addArms 5 = .ok (.istore_n 3, 1) := by decide +kernel
theorem dX6_addArms_6 : decode cX6_addArms 6 = .ok (.iload_n 2, 1) := by decide +kernel
theorem dX6_addArms_7 : decode cX6_addArms 7 = .ok (.iconst (-1), 1) := by decide +kernel
theorem dX6_addArms_8 : decode cX6_addArms 8 = .ok (.if_icmp .eq 11, 3) := by decide +kernel
theorem dX6_addArms_11 : decode cX6_addArms 11 = .ok (.iload_n 1, 1) := by decide +kernel
theorem dX6_addArms_12 : decode cX6_addArms 12 = .ok (.iload_n 3, 1) := by decide +kernel
theorem dX6_addArms_13 : decode cX6_addArms 13 = .ok (.invokestatic 61, 3) := by decide +kernel
theorem dX6_addArms_16 : decode cX6_addArms 16 = .ok (.ifCond .ne 4, 3) := by decide +kernel
theorem dX6_addArms_19 : decode cX6_addArms 19 = .ok (.return_, 1) := by decide +kernel
theorem dX6_addArms_20 : decode cX6_addArms 20 = .ok (.iconst 0, 1) := by decide +kernel
theorem dX6_addArms_21 : decode cX6_addArms 21 = .ok (.istore 4, 2) := by decide +kernel
theorem dX6_addArms_23 : decode cX6_addArms 23 = .ok (.iload 4, 2) := by decide +kernel
theorem dX6_addArms_25 : decode cX6_addArms 25 = .ok (.iload_n 3, 1) := by decide +kernel
theorem dX6_addArms_26 : decode cX6_addArms 26 = .ok (.if_icmp .ge 21, 3) := by decide +kernel
theorem dX6_addArms_29 : decode cX6_addArms 29 = .ok (.aload_n 0, 1) := by decide +kernel
theorem dX6_addArms_30 : decode cX6_addArms 30 = .ok (.iload_n 1, 1) := by decide +kernel
theorem dX6_addArms_31 : decode cX6_addArms 31 = .ok (.iload 4, 2) := by decide +kernel
theorem dX6_addArms_33 : decode cX6_addArms 33 = .ok (.invokevirtual 58, 3) := by decide +kernel
theorem dX6_addArms_36 : decode cX6_addArms 36 = .ok (.iload_n 2, 1) := by decide +kernel
theorem dX6_addArms_37 : decode cX6_addArms 37 = .ok (.if_icmp .ne 4, 3) := by decide +kernel
theorem dX6_addArms_40 : decode cX6_addArms 40 = .ok (.return_, 1) := by decide +kernel
theorem dX6_addArms_41 : decode cX6_addArms 41 = .ok (.iinc 4 1, 3) := by decide +kernel
theorem dX6_addArms_44 : decode cX6_addArms 44 = .ok (.goto (-21), 3) := by decide +kernel
theorem dX6_addArms_47 : decode cX6_addArms 47 = .ok (.aload_n 0, 1) := by decide +kernel
theorem dX6_addArms_48 : decode cX6_addArms 48 = .ok (.getfield 13, 3) := by decide +kernel
theorem dX6_addArms_51 : decode cX6_addArms 51 = .ok (.iload_n 1, 1) := by decide +kernel
theorem dX6_addArms_52 : decode cX6_addArms 52 = .ok (.bipush 12, 2) := by decide +kernel
theorem dX6_addArms_54 : decode cX6_addArms 54 = .ok (.imul, 1) := by decide +kernel
theorem dX6_addArms_55 : decode cX6_addArms 55 = .ok (.iload_n 3, 1) := by decide +kernel
theorem dX6_addArms_56 : decode cX6_addArms 56 = .ok (.iadd, 1) := by decide +kernel
theorem dX6_addArms_57 : decode cX6_addArms 57 = .ok (.iload_n 2, 1) := by decide +kernel
theorem dX6_addArms_58 : decode cX6_addArms 58 = .ok (.iastore, 1) := by decide +kernel
theorem dX6_addArms_59 : decode cX6_addArms 59 = .ok (.aload_n 0, 1) := by decide +kernel
theorem dX6_addArms_60 : decode cX6_addArms 60 = .ok (.getfield 17, 3) := by decide +kernel
theorem dX6_addArms_63 : decode cX6_addArms 63 = .ok (.iload_n 1, 1) := by decide +kernel
theorem dX6_addArms_64 : decode cX6_addArms 64 = .ok (.iload_n 3, 1) := by decide +kernel
theorem dX6_addArms_65 : decode cX6_addArms 65 = .ok (.iconst 1, 1) := by decide +kernel
theorem dX6_addArms_66 : decode cX6_addArms 66 = .ok (.iadd, 1) := by decide +kernel
theorem dX6_addArms_67 : decode cX6_addArms 67 = .ok (.iastore, 1) := by decide +kernel
theorem dX6_addArms_68 : decode cX6_addArms 68 = .ok (.return_, 1) := by decide +kernel
theorem dX6_isPlace_0 : decode cX6_isPlace 0 = .ok (.iload_n 0, 1) := by decide +kernel
theorem dX6_isPlace_1 : decode cX6_isPlace 1 = .ok (.ifCond .lt 23, 3) := by decide +kernel
theorem dX6_isPlace_4 : decode cX6_isPlace 4 = .ok (.iload_n 0, 1) := by decide +kernel
theorem dX6_isPlace_5 : decode cX6_isPlace 5 = .ok (.bipush 60, 2) := by decide +kernel
theorem dX6_isPlace_7 : decode cX6_isPlace 7 = .ok (.if_icmp .ge 17, 3) := by decide +kernel
theorem dX6_isPlace_10 : decode cX6_isPlace 10 = .ok (.iload_n 1, 1) := by decide +kernel
theorem dX6_isPlace_11 : decode cX6_isPlace 11 = .ok (.ifCond .lt 13, 3) := by decide +kernel
theorem dX6_isPlace_14 : decode cX6_isPlace 14 = .ok (.iload_n 1, 1) := by decide +kernel
theorem dX6_isPlace_15 : decode cX6_isPlace 15 = .ok (.bipush 12, 2) := by decide +kernel
theorem dX6_isPlace_17 : decode cX6_isPlace 17 = .ok (.if_icmp .ge 7, 3) := by decide +kernel
theorem dX6_isPlace_20 : decode cX6_isPlace 20 = .ok (.iconst 1, 1) := by decide +kernel
theorem dX6_isPlace_21 : decode cX6_isPlace 21 = .ok (.goto 4, 3) := by decide +kernel
theorem dX6_isPlace_24 : decode cX6_isPlace 24 = .ok (.iconst 0, 1) := by decide +kernel
theorem dX6_isPlace_25 : decode cX6_isPlace 25 = .ok (.ireturn, 1) := by decide +kernel
theorem dX6_sizeOf_0 : decode cX6_sizeOf 0 = .ok (.iload_n 1, 1) := by decide +kernel
theorem dX6_sizeOf_1 : decode cX6_sizeOf 1 = .ok (.ifCond .lt 18, 3) := by decide +kernel
theorem dX6_sizeOf_4 : decode cX6_sizeOf 4 = .ok (.iload_n 1, 1) := by decide +kernel
theorem dX6_sizeOf_5 : decode cX6_sizeOf 5 = .ok (.bipush 60, 2) := by decide +kernel
theorem dX6_sizeOf_7 : decode cX6_sizeOf 7 = .ok (.if_icmp .ge 12, 3) := by decide +kernel
theorem dX6_sizeOf_10 : decode cX6_sizeOf 10 = .ok (.aload_n 0, 1) := by decide +kernel
theorem dX6_sizeOf_11 : decode cX6_sizeOf 11 = .ok (.getfield 17, 3) := by decide +kernel
theorem dX6_sizeOf_14 : decode cX6_sizeOf 14 = .ok (.iload_n 1, 1) := by decide +kernel
theorem dX6_sizeOf_15 : decode cX6_sizeOf 15 = .ok (.iaload, 1) := by decide +kernel
theorem dX6_sizeOf_16 : decode cX6_sizeOf 16 = .ok (.goto 4, 3) := by decide +kernel
theorem dX6_sizeOf_19 : decode cX6_sizeOf 19 = .ok (.iconst 0, 1) := by decide +kernel
theorem dX6_sizeOf_20 : decode cX6_sizeOf 20 = .ok (.ireturn, 1) := by decide +kernel
theorem dX6_armsAt_0 : decode cX6_armsAt 0 = .ok (.iload_n 1, 1) := by decide +kernel
theorem dX6_armsAt_1 : decode cX6_armsAt 1 = .ok (.iload_n 2, 1) := by decide +kernel
theorem dX6_armsAt_2 : decode cX6_armsAt 2 = .ok (.invokestatic 61, 3) := by decide +kernel
theorem dX6_armsAt_5 : decode cX6_armsAt 5 = .ok (.ifCond .eq 17, 3) := by decide +kernel
theorem dX6_armsAt_8 : decode cX6_armsAt 8 = .ok (.aload_n 0, 1) := by decide +kernel
theorem dX6_armsAt_9 : decode cX6_armsAt 9 = .ok (.getfield 13, 3) := by decide +kernel
theorem dX6_armsAt_12 : decode cX6_armsAt 12 = .ok (.iload_n 1, 1) := by decide +kernel
theorem dX6_armsAt_13 : decode cX6_armsAt 13 = .ok (.bipush 12, 2) := by decide +kernel
theorem dX6_armsAt_15 : decode cX6_armsAt 15 = .ok (.imul, 1) := by decide +kernel
theorem dX6_armsAt_16 : decode cX6_armsAt 16 = .ok (.iload_n 2, 1) := by decide +kernel
theorem dX6_armsAt_17 : decode cX6_armsAt 17 = .ok (.iadd, 1) := by decide +kernel
theorem dX6_armsAt_18 : decode cX6_armsAt 18 = .ok (.iaload, 1) := by decide +kernel
theorem dX6_armsAt_19 : decode cX6_armsAt 19 = .ok (.goto 4, 3) := by decide +kernel
theorem dX6_armsAt_22 : decode cX6_armsAt 22 = .ok (.iconst (-1), 1) := by decide +kernel
theorem dX6_armsAt_23 : decode cX6_armsAt 23 = .ok (.ireturn, 1) := by decide +kernel
end
section
theorem dX7_init_0 : decode cX7_init 0 = .ok (.aload_n 0, 1) := by decide +kernel
theorem dX7_init_1 : decode cX7_init 1 = .ok (.invokespecial 3, 3) := by decide +kernel
theorem dX7_init_4 : decode cX7_init 4 = .ok (.aload_n 0, 1) := by decide +kernel
theorem dX7_init_5 : decode cX7_init 5 = .ok (.sipush 401, 3) := by decide +kernel
theorem dX7_init_8 : decode cX7_init 8 = .ok (.newarray .int, 2) := by decide +kernel
theorem dX7_init_10 : decode cX7_init 10 = .ok (.putfield 11, 3) := by decide +kernel
theorem dX7_init_13 : decode cX7_init 13 = .ok (.aload_n 0, 1) := by decide +kernel
theorem dX7_init_14 : decode cX7_init 14 = .ok (.sipush 401, 3) := by decide +kernel
theorem dX7_init_17 : decode cX7_init 17 = .ok (.newarray .int, 2) := by decide +kernel
theorem dX7_init_19 : decode cX7_init 19 = .ok (.putfield 15, 3) := by decide +kernel
theorem dX7_init_22 : decode cX7_init 22 = .ok (.aload_n 0, 1) := by decide +kernel
theorem dX7_init_23 : decode cX7_init 23 = .ok (.iconst 0, 1) := by decide +kernel
theorem dX7_init_24 : decode cX7_init 24 = .ok (.putfield 18, 3) := by decide +kernel
theorem dX7_init_27 : decode cX7_init 27 = .ok (.return_, 1) := by decide +kernel
theorem dX7_isName_0 : decode cX7_isName 0 = .ok (.iload_n 0, 1) := by decide +kernel
theorem dX7_isName_1 : decode cX7_isName 1 = .ok (.bipush 100, 2) := by decide +kernel
theorem dX7_isName_3 : decode cX7_isName 3 = .ok (.if_icmp .lt 13, 3) := by decide +kernel
theorem dX7_isName_6 : decode cX7_isName 6 = .ok (.iload_n 0, 1) := by decide +kernel
theorem dX7_isName_7 : decode cX7_isName 7 = .ok (.bipush 107, 2) := by decide +kernel
theorem dX7_isName_9 : decode cX7_isName 9 = .ok (.if_icmp .gt 7, 3) := by decide +kernel
theorem dX7_isName_12 : decode cX7_isName 12 = .ok (.iconst 1, 1) := by decide +kernel
theorem dX7_isName_13 : decode cX7_isName 13 = .ok (.goto 4, 3) := by decide +kernel
theorem dX7_isName_16 : decode cX7_isName 16 = .ok (.iconst 0, 1) := by decide +kernel
theorem dX7_isName_17 : decode cX7_isName 17 = .ok (.ireturn, 1) := by decide +kernel
theorem dX7_isNumber_0 : decode cX7_isNumber 0 = .ok (.iload_n 0, 1) := by decide +kernel
theorem dX7_isNumber_1 : decode cX7_isNumber 1 = .ok (.sipush 1000, 3) := by decide +kernel
theorem dX7_isNumber_4 : decode cX7_isNumber 4 = .ok (.if_icmp .lt 7, 3) := by decide +kernel
theorem dX7_isNumber_7 : decode cX7_isNumber 7 = .ok (.iconst 1, 1) := by decide +kernel
theorem dX7_isNumber_8 : decode cX7_isNumber 8 = .ok (.goto 4, 3) := by decide +kernel
theorem dX7_isNumber_11 : decode cX7_isNumber 11 = .ok (.iconst 0, 1) := by decide +kernel
theorem dX7_isNumber_12 : decode cX7_isNumber 12 = .ok (.ireturn, 1) := by decide +kernel
theorem dX7_isOtherThanName_0 : decode cX7_isOtherThanName 0 = .ok (.iload_n 0, 1) := by decide +kernel
theorem dX7_isOtherThanName_1 : decode cX7_isOtherThanName 1 = .ok (.iconst 3, 1) := by decide +kernel
theorem dX7_isOtherThanName_2 : decode cX7_isOtherThanName 2 = .ok (.if_icmp .lt 13, 3) := by decide +kernel
theorem dX7_isOtherThanName_5 : decode cX7_isOtherThanName 5 = .ok (.iload_n 0, 1) := by decide +kernel
theorem dX7_isOtherThanName_6 : decode cX7_isOtherThanName 6 = .ok (.bipush 9, 2) := by decide +kernel
theorem dX7_isOtherThanName_8 : decode cX7_isOtherThanName 8 = .ok (.if_icmp .gt 7, 3) := by decide +kernel
theorem dX7_isOtherThanName_11 : decode cX7_isOtherThanName 11 = .ok (.iconst 1, 1) := by decide +kernel
theorem dX7_isOtherThanName_12 : decode cX7_isOtherThanName 12 = .ok (.goto 4, 3) := by decide +kernel
theorem dX7_isOtherThanName_15 : decode cX7_isOtherThanName 15 = .ok (.iconst 0, 1) := by decide +kernel
theorem dX7_isOtherThanName_16 : decode cX7_isOtherThanName 16 = .ok (.ireturn, 1) := by decide +kernel
theorem dX7_scan_0 : decode cX7_scan 0 = .ok (.aload_n 0, 1) := by decide +kernel
theorem dX7_scan_1 : decode cX7_scan 1 = .ok (.iconst 0, 1) := by decide +kernel
theorem dX7_scan_2 : decode cX7_scan 2 = .ok (.putfield 18, 3) := by decide +kernel
theorem dX7_scan_5 : decode cX7_scan 5 = .ok (.iload_n 2, 1) := by decide +kernel
theorem dX7_scan_6 : decode cX7_scan 6 = .ok (.aload_n 1, 1) := by decide +kernel
theorem dX7_scan_7 : decode cX7_scan 7 = .ok (.arraylength, 1) := by decide +kernel
theorem dX7_scan_8 : decode cX7_scan 8 = .ok (.invokestatic 22, 3) := by decide +kernel
theorem dX7_scan_11 : decode cX7_scan 11 = .ok (.istore_n 3, 1) := by decide +kernel
theorem dX7_scan_12 : decode cX7_scan 12 = .ok (.iconst 0, 1) := by decide +kernel
theorem dX7_scan_13 : decode cX7_scan 13 = .ok (.istore 4, 2) := by decide +kernel
theorem dX7_scan_15 : decode cX7_scan 15 = .ok (.iconst 0, 1) := by decide +kernel
theorem dX7_scan_16 : decode cX7_scan 16 = .ok (.istore 5, 2) := by decide +kernel
theorem dX7_scan_18 : decode cX7_scan 18 = .ok (.iload 5, 2) := by decide +kernel
theorem dX7_scan_20 : decode cX7_scan 20 = .ok (.sipush 400, 3) := by decide +kernel
theorem dX7_scan_23 : decode cX7_scan 23 = .ok (.if_icmp .ge 25, 3) := by decide +kernel
theorem dX7_scan_26 : decode cX7_scan 26 = .ok (.iload 4, 2) := by decide +kernel
theorem dX7_scan_28 : decode cX7_scan 28 = .ok (.iload_n 3, 1) := by decide +kernel
theorem dX7_scan_29 : decode cX7_scan 29 = .ok (.if_icmp .ge 19, 3) := by decide +kernel
theorem dX7_scan_32 : decode cX7_scan 32 = .ok (.aload_n 0, 1) := by decide +kernel
theorem dX7_scan_33 : decode cX7_scan 33 = .ok (.aload_n 1, 1) := by decide +kernel
theorem dX7_scan_34 : decode cX7_scan 34 = .ok (.iload 4, 2) := by decide +kernel
theorem dX7_scan_36 : decode cX7_scan 36 = .ok (.iload_n 3, 1) := by decide +kernel
theorem dX7_scan_37 : decode cX7_scan 37 = .ok (.invokevirtual 28, 3) := by decide +kernel
theorem dX7_scan_40 : decode cX7_scan 40 = .ok (.istore 4, 2) := by decide +kernel
theorem dX7_scan_42 : decode cX7_scan 42 = .ok (.iinc 5 1, 3) := by decide +kernel
theorem dX7_scan_45 : decode cX7_scan 45 = .ok (.goto (-27), 3) := by decide +kernel
theorem dX7_scan_48 : decode cX7_scan 48 = .ok (.aload_n 0, 1) := by decide +kernel
theorem dX7_scan_49 : decode cX7_scan 49 = .ok (.iconst 0, 1) := by decide +kernel
theorem dX7_scan_50 : decode cX7_scan 50 = .ok (.iload_n 3, 1) := by decide +kernel
theorem dX7_scan_51 : decode cX7_scan 51 = .ok (.invokevirtual 32, 3) := by decide +kernel
theorem dX7_scan_54 : decode cX7_scan 54 = .ok (.return_, 1) := by decide +kernel
theorem dX7_put_0 : decode cX7_put 0 = .ok (.aload_n 0, 1) := by decide +kernel
theorem dX7_put_1 : decode cX7_put 1 = .ok (.getfield 18, 3) := by decide +kernel
theorem dX7_put_4 : decode cX7_put 4 = .ok (.sipush 401, 3) := by decide +kernel
theorem dX7_put_7 : decode cX7_put 7 = .ok (.if_icmp .ge 33, 3) := by decide +kernel
theorem dX7_put_10 : decode cX7_put 10 = .ok (.aload_n 0, 1) := by decide +kernel
theorem dX7_put_11 : decode cX7_put 11 = .ok (.getfield 11, 3) := by decide +kernel
theorem dX7_put_14 : decode cX7_put 14 = .ok (.aload_n 0, 1) := by decide +kernel
theorem dX7_put_15 : decode cX7_put 15 = .ok (.getfield 18, 3) := by decide +kernel
theorem dX7_put_18 : decode cX7_put 18 = .ok (.iload_n 1, 1) := by decide +kernel
theorem dX7_put_19 : decode cX7_put 19 = .ok (.iastore, 1) := by decide +kernel
theorem dX7_put_20 : decode cX7_put 20 = .ok (.aload_n 0, 1) := by decide +kernel
theorem dX7_put_21 : decode cX7_put 21 = .ok (.getfield 15, 3) := by decide +kernel
theorem dX7_put_24 : decode cX7_put 24 = .ok (.aload_n 0, 1) := by decide +kernel
theorem dX7_put_25 : decode cX7_put 25 = .ok (.getfield 18, 3) := by decide +kernel
theorem dX7_put_28 : decode cX7_put 28 = .ok (.iload_n 2, 1) := by decide +kernel
theorem dX7_put_29 : decode cX7_put 29 = .ok (.iastore, 1) := by decide +kernel
theorem dX7_put_30 : decode cX7_put 30 = .ok (.aload_n 0, 1) := by decide +kernel
theorem dX7_put_31 : decode cX7_put 31 = .ok (.dup, 1) := by decide +kernel
theorem dX7_put_32 : decode cX7_put 32 = .ok (.getfield 18, 3) := by decide +kernel
theorem dX7_put_35 : decode cX7_put 35 = .ok (.iconst 1, 1) := by decide +kernel
theorem dX7_put_36 : decode cX7_put 36 = .ok (.iadd, 1) := by decide +kernel
theorem dX7_put_37 : decode cX7_put 37 = .ok (.putfield 18, 3) := by decide +kernel
theorem dX7_put_40 : decode cX7_put 40 = .ok (.return_, 1) := by decide +kernel
theorem dX7_scanOne_0 : decode cX7_scanOne 0 = .ok (.aload_n 1, 1) := by decide +kernel
theorem dX7_scanOne_1 : decode cX7_scanOne 1 = .ok (.iload_n 2, 1) := by decide +kernel
theorem dX7_scanOne_2 : decode cX7_scanOne 2 = .ok (.baload, 1) := by decide +kernel
theorem dX7_scanOne_3 : decode cX7_scanOne 3 = .ok (.istore 4, 2) := by decide +kernel
theorem dX7_scanOne_5 : decode cX7_scanOne 5 = .ok (.iload 4, 2) := by decide +kernel
theorem dX7_scanOne_7 : decode cX7_scanOne 7 = .ok (.bipush 32, 2) := by decide +kernel
theorem dX7_scanOne_9 : decode cX7_scanOne 9 = .ok (.if_icmp .eq 10, 3) := by decide +kernel
theorem dX7_scanOne_12 : decode cX7_scanOne 12 = .ok (.iload 4, 2) := by decide +kernel
theorem dX7_scanOne_14 : decode cX7_scanOne 14 = .ok (.bipush 10, 2) := by decide +kernel
theorem dX7_scanOne_16 : decode cX7_scanOne 16 = .ok (.if_icmp .ne 7, 3) := by decide +kernel
theorem dX7_scanOne_19 : decode cX7_scanOne 19 = .ok (.iload_n 2, 1) := by decide +kernel
theorem dX7_scanOne_20 : decode cX7_scanOne 20 = .ok (.iconst 1, 1) := by decide +kernel
theorem dX7_scanOne_21 : decode cX7_scanOne 21 = .ok (.iadd, 1) := by decide +kernel
theorem dX7_scanOne_22 : decode cX7_scanOne 22 = .ok (.ireturn, 1) := by decide +kernel
theorem dX7_scanOne_23 : decode cX7_scanOne 23 = .ok (.iload 4, 2) := by decide +kernel
theorem dX7_scanOne_25 : decode cX7_scanOne 25 = .ok (.invokestatic 36, 3) := by decide +kernel
theorem dX7_scanOne_28 : decode cX7_scanOne 28 = .ok (.ifCond .eq 26, 3) := by decide +kernel
theorem dX7_scanOne_31 : decode cX7_scanOne 31 = .ok (.aload_n 1, 1) := by decide +kernel
theorem dX7_scanOne_32 : decode cX7_scanOne 32 = .ok (.iload_n 2, 1) := by decide +kernel
theorem dX7_scanOne_33 : decode cX7_scanOne 33 = .ok (.iload_n 3, 1) := by decide +kernel
theorem dX7_scanOne_34 : decode cX7_scanOne 34 = .ok (.invokestatic 40, 3) := by decide +kernel
theorem dX7_scanOne_37 : decode cX7_scanOne 37 = .ok (.istore 5, 2) := by decide +kernel
theorem dX7_scanOne_39 : decode cX7_scanOne 39 = .ok (.aload_n 0, 1) := by decide +kernel
theorem dX7_scanOne_40 : decode cX7_scanOne 40 = .ok (.aload_n 1, 1) := by decide +kernel
theorem dX7_scanOne_41 : decode cX7_scanOne 41 = .ok (.iload_n 2, 1) := by decide +kernel
theorem dX7_scanOne_42 : decode cX7_scanOne 42 = .ok (.iload 5, 2) := by decide +kernel
theorem dX7_scanOne_44 : decode cX7_scanOne 44 = .ok (.invokestatic 43, 3) := by decide +kernel
theorem dX7_scanOne_47 : decode cX7_scanOne 47 = .ok (.iload_n 2, 1) := by decide +kernel
theorem dX7_scanOne_48 : decode cX7_scanOne 48 = .ok (.invokevirtual 32, 3) := by decide +kernel
theorem dX7_scanOne_51 : decode cX7_scanOne 51 = .ok (.iload 5, 2) := by decide +kernel
theorem dX7_scanOne_53 : decode cX7_scanOne 53 = .ok (.ireturn, 1) := by decide +kernel
theorem dX7_scanOne_54 : decode cX7_scanOne 54 = .ok (.iload 4, 2) := by decide +kernel
theorem dX7_scanOne_56 : decode cX7_scanOne 56 = .ok (.invokestatic 46, 3) := by decide +kernel
theorem dX7_scanOne_59 : decode cX7_scanOne 59 = .ok (.ifCond .eq 26, 3) := by decide +kernel
theorem dX7_scanOne_62 : decode cX7_scanOne 62 = .ok (.aload_n 1, 1) := by decide +kernel
theorem dX7_scanOne_63 : decode cX7_scanOne 63 = .ok (.iload_n 2, 1) := by decide +kernel
theorem dX7_scanOne_64 : decode cX7_scanOne 64 = .ok (.iload_n 3, 1) := by decide +kernel
theorem dX7_scanOne_65 : decode cX7_scanOne 65 = .ok (.invokestatic 49, 3) := by decide +kernel
theorem dX7_scanOne_68 : decode cX7_scanOne 68 = .ok (.istore 5, 2) := by decide +kernel
theorem dX7_scanOne_70 : decode cX7_scanOne 70 = .ok (.aload_n 0, 1) := by decide +kernel
theorem dX7_scanOne_71 : decode cX7_scanOne 71 = .ok (.aload_n 1, 1) := by decide +kernel
theorem dX7_scanOne_72 : decode cX7_scanOne 72 = .ok (.iload_n 2, 1) := by decide +kernel
theorem dX7_scanOne_73 : decode cX7_scanOne 73 = .ok (.iload 5, 2) := by decide +kernel
theorem dX7_scanOne_75 : decode cX7_scanOne 75 = .ok (.invokestatic 52, 3) := by decide +kernel
theorem dX7_scanOne_78 : decode cX7_scanOne 78 = .ok (.iload_n 2, 1) := by decide +kernel
theorem dX7_scanOne_79 : decode cX7_scanOne 79 = .ok (.invokevirtual 32, 3) := by decide +kernel
theorem dX7_scanOne_82 : decode cX7_scanOne 82 = .ok (.iload 5, 2) := by decide +kernel
theorem dX7_scanOne_84 : decode cX7_scanOne 84 = .ok (.ireturn, 1) := by decide +kernel
theorem dX7_scanOne_85 : decode cX7_scanOne 85 = .ok (.aload_n 0, 1) := by decide +kernel
theorem dX7_scanOne_86 : decode cX7_scanOne 86 = .ok (.iload 4, 2) := by decide +kernel
theorem dX7_scanOne_88 : decode cX7_scanOne 88 = .ok (.invokestatic 55, 3) := by decide +kernel
theorem dX7_scanOne_91 : decode cX7_scanOne 91 = .ok (.ifCond .eq 8, 3) := by decide +kernel
theorem dX7_scanOne_94 : decode cX7_scanOne 94 = .ok (.iload 4, 2) := by decide +kernel
theorem dX7_scanOne_96 : decode cX7_scanOne 96 = .ok (.goto 4, 3) := by decide +kernel
theorem dX7_scanOne_99 : decode cX7_scanOne 99 = .ok (.iconst 1, 1) := by decide +kernel
theorem dX7_scanOne_100 : decode cX7_scanOne 100 = .ok (.iload_n 2, 1) := by decide +kernel
theorem dX7_scanOne_101 : decode cX7_scanOne 101 = .ok (.invokevirtual 32, 3) := by decide +kernel
theorem dX7_scanOne_104 : decode cX7_scanOne 104 = .ok (.iload_n 2, 1) := by decide +kernel
theorem dX7_scanOne_105 : decode cX7_scanOne 105 = .ok (.iconst 1, 1) := by decide +kernel
theorem dX7_scanOne_106 : decode cX7_scanOne 106 = .ok (.iadd, 1) := by decide +kernel
theorem dX7_scanOne_107 : decode cX7_scanOne 107 = .ok (.ireturn, 1) := by decide +kernel
theorem dX7_isLetter_0 : decode cX7_isLetter 0 = .ok (.iload_n 0, 1) := by decide +kernel
theorem dX7_isLetter_1 : decode cX7_isLetter 1 = .ok (.bipush 97, 2) := by decide +kernel
theorem dX7_isLetter_3 : decode cX7_isLetter 3 = .ok (.if_icmp .lt 13, 3) := by decide +kernel
theorem dX7_isLetter_6 : decode cX7_isLetter 6 = .ok (.iload_n 0, 1) := by decide +kernel
theorem dX7_isLetter_7 : decode cX7_isLetter 7 = .ok (.bipush 122, 2) := by decide +kernel
theorem dX7_isLetter_9 : decode cX7_isLetter 9 = .ok (.if_icmp .gt 7, 3) := by decide +kernel
theorem dX7_isLetter_12 : decode cX7_isLetter 12 = .ok (.iconst 1, 1) := by decide +kernel
theorem dX7_isLetter_13 : decode cX7_isLetter 13 = .ok (.goto 4, 3) := by decide +kernel
theorem dX7_isLetter_16 : decode cX7_isLetter 16 = .ok (.iconst 0, 1) := by decide +kernel
theorem dX7_isLetter_17 : decode cX7_isLetter 17 = .ok (.ireturn, 1) := by decide +kernel
theorem dX7_isDigit_0 : decode cX7_isDigit 0 = .ok (.iload_n 0, 1) := by decide +kernel
theorem dX7_isDigit_1 : decode cX7_isDigit 1 = .ok (.bipush 48, 2) := by decide +kernel
theorem dX7_isDigit_3 : decode cX7_isDigit 3 = .ok (.if_icmp .lt 13, 3) := by decide +kernel
theorem dX7_isDigit_6 : decode cX7_isDigit 6 = .ok (.iload_n 0, 1) := by decide +kernel
theorem dX7_isDigit_7 : decode cX7_isDigit 7 = .ok (.bipush 57, 2) := by decide +kernel
theorem dX7_isDigit_9 : decode cX7_isDigit 9 = .ok (.if_icmp .gt 7, 3) := by decide +kernel
theorem dX7_isDigit_12 : decode cX7_isDigit 12 = .ok (.iconst 1, 1) := by decide +kernel
theorem dX7_isDigit_13 : decode cX7_isDigit 13 = .ok (.goto 4, 3) := by decide +kernel
theorem dX7_isDigit_16 : decode cX7_isDigit 16 = .ok (.iconst 0, 1) := by decide +kernel
theorem dX7_isDigit_17 : decode cX7_isDigit 17 = .ok (.ireturn, 1) := by decide +kernel
theorem dX7_isSign_0 : decode cX7_isSign 0 = .ok (.iload_n 0, 1) := by decide +kernel
theorem dX7_isSign_1 : decode cX7_isSign 1 = .ok (.bipush 40, 2) := by decide +kernel
theorem dX7_isSign_3 : decode cX7_isSign 3 = .ok (.if_icmp .eq 39, 3) := by decide +kernel
theorem dX7_isSign_6 : decode cX7_isSign 6 = .ok (.iload_n 0, 1) := by decide +kernel
theorem dX7_isSign_7 : decode cX7_isSign 7 = .ok (.bipush 41, 2) := by decide +kernel
theorem dX7_isSign_9 : decode cX7_isSign 9 = .ok (.if_icmp .eq 33, 3) := by decide +kernel
theorem dX7_isSign_12 : decode cX7_isSign 12 = .ok (.iload_n 0, 1) := by decide +kernel
theorem dX7_isSign_13 : decode cX7_isSign 13 = .ok (.bipush 59, 2) := by decide +kernel
theorem dX7_isSign_15 : decode cX7_isSign 15 = .ok (.if_icmp .eq 27, 3) := by decide +kernel
theorem dX7_isSign_18 : decode cX7_isSign 18 = .ok (.iload_n 0, 1) := by decide +kernel
theorem dX7_isSign_19 : decode cX7_isSign 19 = .ok (.bipush 43, 2) := by decide +kernel
theorem dX7_isSign_21 : decode cX7_isSign 21 = .ok (.if_icmp .eq 21, 3) := by decide +kernel
theorem dX7_isSign_24 : decode cX7_isSign 24 = .ok (.iload_n 0, 1) := by decide +kernel
theorem dX7_isSign_25 : decode cX7_isSign 25 = .ok (.bipush 45, 2) := by decide +kernel
theorem dX7_isSign_27 : decode cX7_isSign 27 = .ok (.if_icmp .eq 15, 3) := by decide +kernel
theorem dX7_isSign_30 : decode cX7_isSign 30 = .ok (.iload_n 0, 1) := by decide +kernel
theorem dX7_isSign_31 : decode cX7_isSign 31 = .ok (.bipush 60, 2) := by decide +kernel
theorem dX7_isSign_33 : decode cX7_isSign 33 = .ok (.if_icmp .eq 9, 3) := by decide +kernel
theorem dX7_isSign_36 : decode cX7_isSign 36 = .ok (.iload_n 0, 1) := by decide +kernel
theorem dX7_isSign_37 : decode cX7_isSign 37 = .ok (.bipush 61, 2) := by decide +kernel
theorem dX7_isSign_39 : decode cX7_isSign 39 = .ok (.if_icmp .ne 7, 3) := by decide +kernel
theorem dX7_isSign_42 : decode cX7_isSign 42 = .ok (.iconst 1, 1) := by decide +kernel
theorem dX7_isSign_43 : decode cX7_isSign 43 = .ok (.goto 4, 3) := by decide +kernel
theorem dX7_isSign_46 : decode cX7_isSign 46 = .ok (.iconst 0, 1) := by decide +kernel
theorem dX7_isSign_47 : decode cX7_isSign 47 = .ok (.ireturn, 1) := by decide +kernel
theorem dX7_behindLetters_0 : decode cX7_behindLetters 0 = .ok (.iload_n 1, 1) := by decide +kernel
theorem dX7_behindLetters_1 : decode cX7_behindLetters 1 = .ok (.istore_n 3, 1) := by decide +kernel
theorem dX7_behindLetters_2 : decode cX7_behindLetters 2 = .ok (.iload_n 3, 1) := by decide +kernel
theorem dX7_behindLetters_3 : decode cX7_behindLetters 3 = .ok (.iload_n 2, 1) := by decide +kernel
theorem dX7_behindLetters_4 : decode cX7_behindLetters 4 = .ok (.if_icmp .ge 18, 3) := by decide +kernel
theorem dX7_behindLetters_7 : decode cX7_behindLetters 7 = .ok (.aload_n 0, 1) := by decide +kernel
theorem dX7_behindLetters_8 : decode cX7_behindLetters 8 = .ok (.iload_n 3, 1) := by decide +kernel
theorem dX7_behindLetters_9 : decode cX7_behindLetters 9 = .ok (.baload, 1) := by decide +kernel
theorem dX7_behindLetters_10 : decode cX7_behindLetters 10 = .ok (.invokestatic 36, 3) := by decide +kernel
theorem dX7_behindLetters_13 : decode cX7_behindLetters 13 = .ok (.ifCond .eq 9, 3) := by decide +kernel
theorem dX7_behindLetters_16 : decode cX7_behindLetters 16 = .ok (.iinc 3 1, 3) := by decide +kernel
theorem dX7_behindLetters_19 : decode cX7_behindLetters 19 = .ok (.goto (-17), 3) := by decide +kernel
theorem dX7_behindLetters_22 : decode cX7_behindLetters 22 = .ok (.iload_n 3, 1) := by decide +kernel
theorem dX7_behindLetters_23 : decode cX7_behindLetters 23 = .ok (.ireturn, 1) := by decide +kernel
theorem dX7_behindDigits_0 : decode cX7_behindDigits 0 = .ok (.iload_n 1, 1) := by decide +kernel
theorem dX7_behindDigits_1 : decode cX7_behindDigits 1 = .ok (.istore_n 3, 1) := by decide +kernel
theorem dX7_behindDigits_2 : decode cX7_behindDigits 2 = .ok (.iload_n 3, 1) := by decide +kernel
theorem dX7_behindDigits_3 : decode cX7_behindDigits 3 = .ok (.iload_n 2, 1) := by decide +kernel
theorem dX7_behindDigits_4 : decode cX7_behindDigits 4 = .ok (.if_icmp .ge 18, 3) := by decide +kernel
theorem dX7_behindDigits_7 : decode cX7_behindDigits 7 = .ok (.aload_n 0, 1) := by decide +kernel
theorem dX7_behindDigits_8 : decode cX7_behindDigits 8 = .ok (.iload_n 3, 1) := by decide +kernel
theorem dX7_behindDigits_9 : decode cX7_behindDigits 9 = .ok (.baload, 1) := by decide +kernel
theorem dX7_behindDigits_10 : decode cX7_behindDigits 10 = .ok (.invokestatic 46, 3) := by decide +kernel
theorem dX7_behindDigits_13 : decode cX7_behindDigits 13 = .ok (.ifCond .eq 9, 3) := by decide +kernel
theorem dX7_behindDigits_16 : decode cX7_behindDigits 16 = .ok (.iinc 3 1, 3) := by decide +kernel
theorem dX7_behindDigits_19 : decode cX7_behindDigits 19 = .ok (.goto (-17), 3) := by decide +kernel
theorem dX7_behindDigits_22 : decode cX7_behindDigits 22 = .ok (.iload_n 3, 1) := by decide +kernel
theorem dX7_behindDigits_23 : decode cX7_behindDigits 23 = .ok (.ireturn, 1) := by decide +kernel
theorem dX7_numberToken_0 : decode cX7_numberToken 0 = .ok (.iload_n 2, 1) := by decide +kernel
theorem dX7_numberToken_1 : decode cX7_numberToken 1 = .ok (.iload_n 1, 1) := by decide +kernel
theorem dX7_numberToken_2 : decode cX7_numberToken 2 = .ok (.isub, 1) := by decide +kernel
theorem dX7_numberToken_3 : decode cX7_numberToken 3 = .ok (.iconst 4, 1) := by decide +kernel
theorem dX7_numberToken_4 : decode cX7_numberToken 4 = .ok (.if_icmp .le 5, 3) := by decide +kernel
theorem dX7_numberToken_7 : decode cX7_numberToken 7 = .ok (.iconst 2, 1) := by decide +kernel
theorem dX7_numberToken_8 : decode cX7_numberToken 8 = .ok (.ireturn, 1) := by decide +kernel
theorem dX7_numberToken_9 : decode cX7_numberToken 9 = .ok (.iconst 0, 1) := by decide +kernel
theorem dX7_numberToken_10 : decode cX7_numberToken 10 = .ok (.istore_n 3, 1) := by decide +kernel
theorem dX7_numberToken_11 : decode cX7_numberToken 11 = .ok (.iload_n 1, 1) := by decide +kernel
theorem dX7_numberToken_12 : decode cX7_numberToken 12 = .ok (.istore 4, 2) := by decide +kernel
theorem dX7_numberToken_14 : decode cX7_numberToken 14 = .ok (.iload 4, 2) := by decide +kernel
theorem dX7_numberToken_16 : decode cX7_numberToken 16 = .ok (.iload_n 2, 1) := by decide +kernel
theorem dX7_numberToken_17 : decode cX7_numberToken 17 = .ok (.if_icmp .ge 22, 3) := by decide +kernel
theorem dX7_numberToken_20 : decode cX7_numberToken 20 = .ok (.iload_n 3, 1) := by decide +kernel
theorem dX7_numberToken_21 : decode cX7_numberToken 21 = .ok (.bipush 10, 2) := by decide +kernel
theorem dX7_numberToken_23 : decode cX7_numberToken 23 = .ok (.imul, 1) := by decide +kernel
theorem dX7_numberToken_24 : decode cX7_numberToken 24 = .ok (.aload_n 0, 1) := by decide +kernel
theorem dX7_numberToken_25 : decode cX7_numberToken 25 = .ok (.iload 4, 2) := by decide +kernel
theorem dX7_numberToken_27 : decode cX7_numberToken 27 = .ok (.baload, 1) := by decide +kernel
theorem dX7_numberToken_28 : decode cX7_numberToken 28 = .ok (.bipush 48, 2) := by decide +kernel
theorem dX7_numberToken_30 : decode cX7_numberToken 30 = .ok (.isub, 1) := by decide +kernel
theorem dX7_numberToken_31 : decode cX7_numberToken 31 = .ok (.iadd, 1) := by decide +kernel
theorem dX7_numberToken_32 : decode cX7_numberToken 32 = .ok (.istore_n 3, 1) := by decide +kernel
theorem dX7_numberToken_33 : decode cX7_numberToken 33 = .ok (.iinc 4 1, 3) := by decide +kernel
theorem dX7_numberToken_36 : decode cX7_numberToken 36 = .ok (.goto (-22), 3) := by decide +kernel
theorem dX7_numberToken_39 : decode cX7_numberToken 39 = .ok (.sipush 1000, 3) := by decide +kernel
theorem dX7_numberToken_42 : decode cX7_numberToken 42 = .ok (.iload_n 3, 1) := by decide +kernel
theorem dX7_numberToken_43 : decode cX7_numberToken 43 = .ok (.iadd, 1) := by decide +kernel
theorem dX7_numberToken_44 : decode cX7_numberToken 44 = .ok (.ireturn, 1) := by decide +kernel
theorem dX7_wordToken_0 : decode cX7_wordToken 0 = .ok (.aload_n 0, 1) := by decide +kernel
theorem dX7_wordToken_1 : decode cX7_wordToken 1 = .ok (.iload_n 1, 1) := by decide +kernel
theorem dX7_wordToken_2 : decode cX7_wordToken 2 = .ok (.iload_n 2, 1) := by decide +kernel
theorem dX7_wordToken_3 : decode cX7_wordToken 3 = .ok (.ldc 58, 2) := by decide +kernel
theorem dX7_wordToken_5 : decode cX7_wordToken 5 = .ok (.invokestatic 60, 3) := by decide +kernel
theorem dX7_wordToken_8 : decode cX7_wordToken 8 = .ok (.ifCond .eq 5, 3) := by decide +kernel
theorem dX7_wordToken_11 : decode cX7_wordToken 11 = .ok (.iconst 4, 1) := by decide +kernel
theorem dX7_wordToken_12 : decode cX7_wordToken 12 = .ok (.ireturn, 1) := by decide +kernel
theorem dX7_wordToken_13 : decode cX7_wordToken 13 = .ok (.aload_n 0, 1) := by decide +kernel
theorem dX7_wordToken_14 : decode cX7_wordToken 14 = .ok (.iload_n 1, 1) := by decide +kernel
theorem dX7_wordToken_15 : decode cX7_wordToken 15 = .ok (.iload_n 2, 1) := by decide +kernel
theorem dX7_wordToken_16 : decode cX7_wordToken 16 = .ok (.ldc 64, 2) := by decide +kernel
theorem dX7_wordToken_18 : decode cX7_wordToken 18 = .ok (.invokestatic 60, 3) := by decide +kernel
theorem dX7_wordToken_21 : decode cX7_wordToken 21 = .ok (.ifCond .eq 5, 3) := by decide +kernel
theorem dX7_wordToken_24 : decode cX7_wordToken 24 = .ok (.iconst 5, 1) := by decide +kernel
theorem dX7_wordToken_25 : decode cX7_wordToken 25 = .ok (.ireturn, 1) := by decide +kernel
theorem dX7_wordToken_26 : decode cX7_wordToken 26 = .ok (.aload_n 0, 1) := by decide +kernel
theorem dX7_wordToken_27 : decode cX7_wordToken 27 = .ok (.iload_n 1, 1) := by decide +kernel
theorem dX7_wordToken_28 : decode cX7_wordToken 28 = .ok (.iload_n 2, 1) := by decide +kernel
theorem dX7_wordToken_29 : decode cX7_wordToken 29 = .ok (.ldc 66, 2) := by decide +kernel
theorem dX7_wordToken_31 : decode cX7_wordToken 31 = .ok (.invokestatic 60, 3) := by decide +kernel
theorem dX7_wordToken_34 : decode cX7_wordToken 34 = .ok (.ifCond .eq 6, 3) := by decide +kernel
theorem dX7_wordToken_37 : decode cX7_wordToken 37 = .ok (.bipush 6, 2) := by decide +kernel
theorem dX7_wordToken_39 : decode cX7_wordToken 39 = .ok (.ireturn, 1) := by decide +kernel
theorem dX7_wordToken_40 : decode cX7_wordToken 40 = .ok (.aload_n 0, 1) := by decide +kernel
theorem dX7_wordToken_41 : decode cX7_wordToken 41 = .ok (.iload_n 1, 1) := by decide +kernel
theorem dX7_wordToken_42 : decode cX7_wordToken 42 = .ok (.iload_n 2, 1) := by decide +kernel
theorem dX7_wordToken_43 : decode cX7_wordToken 43 = .ok (.ldc 68, 2) := by decide +kernel
theorem dX7_wordToken_45 : decode cX7_wordToken 45 = .ok (.invokestatic 60, 3) := by decide +kernel
theorem dX7_wordToken_48 : decode cX7_wordToken 48 = .ok (.ifCond .eq 6, 3) := by decide +kernel
theorem dX7_wordToken_51 : decode cX7_wordToken 51 = .ok (.bipush 7, 2) := by decide +kernel
theorem dX7_wordToken_53 : decode cX7_wordToken 53 = .ok (.ireturn, 1) := by decide +kernel
theorem dX7_wordToken_54 : decode cX7_wordToken 54 = .ok (.aload_n 0, 1) := by decide +kernel
theorem dX7_wordToken_55 : decode cX7_wordToken 55 = .ok (.iload_n 1, 1) := by decide +kernel
theorem dX7_wordToken_56 : decode cX7_wordToken 56 = .ok (.iload_n 2, 1) := by decide +kernel
theorem dX7_wordToken_57 : decode cX7_wordToken 57 = .ok (.ldc 70, 2) := by decide +kernel
theorem dX7_wordToken_59 : decode cX7_wordToken 59 = .ok (.invokestatic 60, 3) := by decide +kernel
theorem dX7_wordToken_62 : decode cX7_wordToken 62 = .ok (.ifCond .eq 6, 3) := by decide +kernel
theorem dX7_wordToken_65 : decode cX7_wordToken 65 = .ok (.bipush 8, 2) := by decide +kernel
theorem dX7_wordToken_67 : decode cX7_wordToken 67 = .ok (.ireturn, 1) := by decide +kernel
theorem dX7_wordToken_68 : decode cX7_wordToken 68 = .ok (.aload_n 0, 1) := by decide +kernel
theorem dX7_wordToken_69 : decode cX7_wordToken 69 = .ok (.iload_n 1, 1) := by decide +kernel
theorem dX7_wordToken_70 : decode cX7_wordToken 70 = .ok (.iload_n 2, 1) := by decide +kernel
theorem dX7_wordToken_71 : decode cX7_wordToken 71 = .ok (.ldc 72, 2) := by decide +kernel
theorem dX7_wordToken_73 : decode cX7_wordToken 73 = .ok (.invokestatic 60, 3) := by decide +kernel
theorem dX7_wordToken_76 : decode cX7_wordToken 76 = .ok (.ifCond .eq 8, 3) := by decide +kernel
theorem dX7_wordToken_79 : decode cX7_wordToken 79 = .ok (.bipush 9, 2) := by decide +kernel
theorem dX7_wordToken_81 : decode cX7_wordToken 81 = .ok (.goto 9, 3) := by decide +kernel
theorem dX7_wordToken_84 : decode cX7_wordToken 84 = .ok (.aload_n 0, 1) := by decide +kernel
theorem dX7_wordToken_85 : decode cX7_wordToken 85 = .ok (.iload_n 1, 1) := by decide +kernel
theorem dX7_wordToken_86 : decode cX7_wordToken 86 = .ok (.iload_n 2, 1) := by decide +kernel
theorem dX7_wordToken_87 : decode cX7_wordToken 87 = .ok (.invokestatic 74, 3) := by decide +kernel
theorem dX7_wordToken_90 : decode cX7_wordToken 90 = .ok (.ireturn, 1) := by decide +kernel
theorem dX7_nameToken_0 : decode cX7_nameToken 0 = .ok (.aload_n 0, 1) := by decide +kernel
theorem dX7_nameToken_1 : decode cX7_nameToken 1 = .ok (.iload_n 1, 1) := by decide +kernel
theorem dX7_nameToken_2 : decode cX7_nameToken 2 = .ok (.iload_n 2, 1) := by decide +kernel
theorem dX7_nameToken_3 : decode cX7_nameToken 3 = .ok (.ldc 77, 2) := by decide +kernel
theorem dX7_nameToken_5 : decode cX7_nameToken 5 = .ok (.invokestatic 60, 3) := by decide +kernel
theorem dX7_nameToken_8 : decode cX7_nameToken 8 = .ok (.ifCond .eq 6, 3) := by decide +kernel
theorem dX7_nameToken_11 : decode cX7_nameToken 11 = .ok (.bipush 100, 2) := by decide +kernel
theorem dX7_nameToken_13 : decode cX7_nameToken 13 = .ok (.ireturn, 1) := by decide +kernel
theorem dX7_nameToken_14 : decode cX7_nameToken 14 = .ok (.aload_n 0, 1) := by decide +kernel
theorem dX7_nameToken_15 : decode cX7_nameToken 15 = .ok (.iload_n 1, 1) := by decide +kernel
theorem dX7_nameToken_16 : decode cX7_nameToken 16 = .ok (.iload_n 2, 1) := by decide +kernel
theorem dX7_nameToken_17 : decode cX7_nameToken 17 = .ok (.ldc 79, 2) := by decide +kernel
theorem dX7_nameToken_19 : decode cX7_nameToken 19 = .ok (.invokestatic 60, 3) := by decide +kernel
theorem dX7_nameToken_22 : decode cX7_nameToken 22 = .ok (.ifCond .eq 6, 3) := by decide +kernel
theorem dX7_nameToken_25 : decode cX7_nameToken 25 = .ok (.bipush 101, 2) := by decide +kernel
theorem dX7_nameToken_27 : decode cX7_nameToken 27 = .ok (.ireturn, 1) := by decide +kernel
theorem dX7_nameToken_28 : decode cX7_nameToken 28 = .ok (.aload_n 0, 1) := by decide +kernel
theorem dX7_nameToken_29 : decode cX7_nameToken 29 = .ok (.iload_n 1, 1) := by decide +kernel
theorem dX7_nameToken_30 : decode cX7_nameToken 30 = .ok (.iload_n 2, 1) := by decide +kernel
theorem dX7_nameToken_31 : decode cX7_nameToken 31 = .ok (.ldc 81, 2) := by decide +kernel
theorem dX7_nameToken_33 : decode cX7_nameToken 33 = .ok (.invokestatic 60, 3) := by decide +kernel
theorem dX7_nameToken_36 : decode cX7_nameToken 36 = .ok (.ifCond .eq 6, 3) := by decide +kernel
theorem dX7_nameToken_39 : decode cX7_nameToken 39 = .ok (.bipush 102, 2) := by decide +kernel
theorem dX7_nameToken_41 : decode cX7_nameToken 41 = .ok (.ireturn, 1) := by decide +kernel
theorem dX7_nameToken_42 : decode cX7_nameToken 42 = .ok (.aload_n 0, 1) := by decide +kernel
theorem dX7_nameToken_43 : decode cX7_nameToken 43 = .ok (.iload_n 1, 1) := by decide +kernel
theorem dX7_nameToken_44 : decode cX7_nameToken 44 = .ok (.iload_n 2, 1) := by decide +kernel
theorem dX7_nameToken_45 : decode cX7_nameToken 45 = .ok (.ldc 83, 2) := by decide +kernel
theorem dX7_nameToken_47 : decode cX7_nameToken 47 = .ok (.invokestatic 60, 3) := by decide +kernel
theorem dX7_nameToken_50 : decode cX7_nameToken 50 = .ok (.ifCond .eq 6, 3) := by decide +kernel
theorem dX7_nameToken_53 : decode cX7_nameToken 53 = .ok (.bipush 103, 2) := by decide +kernel
theorem dX7_nameToken_55 : decode cX7_nameToken 55 = .ok (.ireturn, 1) := by decide +kernel
theorem dX7_nameToken_56 : decode cX7_nameToken 56 = .ok (.aload_n 0, 1) := by decide +kernel
theorem dX7_nameToken_57 : decode cX7_nameToken 57 = .ok (.iload_n 1, 1) := by decide +kernel
theorem dX7_nameToken_58 : decode cX7_nameToken 58 = .ok (.iload_n 2, 1) := by decide +kernel
theorem dX7_nameToken_59 : decode cX7_nameToken 59 = .ok (.ldc 85, 2) := by decide +kernel
theorem dX7_nameToken_61 : decode cX7_nameToken 61 = .ok (.invokestatic 60, 3) := by decide +kernel
theorem dX7_nameToken_64 : decode cX7_nameToken 64 = .ok (.ifCond .eq 6, 3) := by decide +kernel
theorem dX7_nameToken_67 : decode cX7_nameToken 67 = .ok (.bipush 104, 2) := by decide +kernel
theorem dX7_nameToken_69 : decode cX7_nameToken 69 = .ok (.ireturn, 1) := by decide +kernel
theorem dX7_nameToken_70 : decode cX7_nameToken 70 = .ok (.aload_n 0, 1) := by decide +kernel
theorem dX7_nameToken_71 : decode cX7_nameToken 71 = .ok (.iload_n 1, 1) := by decide +kernel
theorem dX7_nameToken_72 : decode cX7_nameToken 72 = .ok (.iload_n 2, 1) := by decide +kernel
theorem dX7_nameToken_73 : decode cX7_nameToken 73 = .ok (.ldc 87, 2) := by decide +kernel
theorem dX7_nameToken_75 : decode cX7_nameToken 75 = .ok (.invokestatic 60, 3) := by decide +kernel
theorem dX7_nameToken_78 : decode cX7_nameToken 78 = .ok (.ifCond .eq 6, 3) := by decide +kernel
theorem dX7_nameToken_81 : decode cX7_nameToken 81 = .ok (.bipush 105, 2) := by decide +kernel
theorem dX7_nameToken_83 : decode cX7_nameToken 83 = .ok (.ireturn, 1) := by decide +kernel
theorem dX7_nameToken_84 : decode cX7_nameToken 84 = .ok (.aload_n 0, 1) := by decide +kernel
theorem dX7_nameToken_85 : decode cX7_nameToken 85 = .ok (.iload_n 1, 1) := by decide +kernel
theorem dX7_nameToken_86 : decode cX7_nameToken 86 = .ok (.iload_n 2, 1) := by decide +kernel
theorem dX7_nameToken_87 : decode cX7_nameToken 87 = .ok (.ldc 89, 2) := by decide +kernel
theorem dX7_nameToken_89 : decode cX7_nameToken 89 = .ok (.invokestatic 60, 3) := by decide +kernel
theorem dX7_nameToken_92 : decode cX7_nameToken 92 = .ok (.ifCond .eq 6, 3) := by decide +kernel
theorem dX7_nameToken_95 : decode cX7_nameToken 95 = .ok (.bipush 106, 2) := by decide +kernel
theorem dX7_nameToken_97 : decode cX7_nameToken 97 = .ok (.ireturn, 1) := by decide +kernel
theorem dX7_nameToken_98 : decode cX7_nameToken 98 = .ok (.aload_n 0, 1) := by decide +kernel
theorem dX7_nameToken_99 : decode cX7_nameToken 99 = .ok (.iload_n 1, 1) := by decide +kernel
theorem dX7_nameToken_100 : decode cX7_nameToken 100 = .ok (.iload_n 2, 1) := by decide +kernel
theorem dX7_nameToken_101 : decode cX7_nameToken 101 = .ok (.ldc 91, 2) := by decide +kernel
theorem dX7_nameToken_103 : decode cX7_nameToken 103 = .ok (.invokestatic 60, 3) := by decide +kernel
theorem dX7_nameToken_106 : decode cX7_nameToken 106 = .ok (.ifCond .eq 8, 3) := by decide +kernel
theorem dX7_nameToken_109 : decode cX7_nameToken 109 = .ok (.bipush 107, 2) := by decide +kernel
theorem dX7_nameToken_111 : decode cX7_nameToken 111 = .ok (.goto 4, 3) := by decide +kernel
theorem dX7_nameToken_114 : decode cX7_nameToken 114 = .ok (.iconst 3, 1) := by decide +kernel
theorem dX7_nameToken_115 : decode cX7_nameToken 115 = .ok (.ireturn, 1) := by decide +kernel
theorem dX7_spells_0 : decode cX7_spells 0 = .ok (.iload_n 2, 1) := by decide +kernel
theorem dX7_spells_1 : decode cX7_spells 1 = .ok (.iload_n 1, 1) := by decide +kernel
theorem dX7_spells_2 : decode cX7_spells 2 = .ok (.isub, 1) := by decide +kernel
theorem dX7_spells_3 : decode cX7_spells 3 = .ok (.aload_n 3, 1) := by decide +kernel
theorem dX7_spells_4 : decode cX7_spells 4 = .ok (.invokevirtual 93, 3) := by decide +kernel
theorem dX7_spells_7 : decode cX7_spells 7 = .ok (.if_icmp .eq 5, 3) := by decide +kernel
theorem dX7_spells_10 : decode cX7_spells 10 = .ok (.iconst 0, 1) := by decide +kernel
theorem dX7_spells_11 : decode cX7_spells 11 = .ok (.ireturn, 1) := by decide +kernel
theorem dX7_spells_12 : decode cX7_spells 12 = .ok (.iconst 0, 1) := by decide +kernel
theorem dX7_spells_13 : decode cX7_spells 13 = .ok (.istore 4, 2) := by decide +kernel
theorem dX7_spells_15 : decode cX7_spells 15 = .ok (.iload 4, 2) := by decide +kernel
theorem dX7_spells_17 : decode cX7_spells 17 = .ok (.aload_n 3, 1) := by decide +kernel
theorem dX7_spells_18 : decode cX7_spells 18 = .ok (.invokevirtual 93, 3) := by decide +kernel
theorem dX7_spells_21 : decode cX7_spells 21 = .ok (.if_icmp .ge 26, 3) := by decide +kernel
theorem dX7_spells_24 : decode cX7_spells 24 = .ok (.aload_n 0, 1) := by decide +kernel
theorem dX7_spells_25 : decode cX7_spells 25 = .ok (.iload_n 1, 1) := by decide +kernel
theorem dX7_spells_26 : decode cX7_spells 26 = .ok (.iload 4, 2) := by decide +kernel
theorem dX7_spells_28 : decode cX7_spells 28 = .ok (.iadd, 1) := by decide +kernel
theorem dX7_spells_29 : decode cX7_spells 29 = .ok (.baload, 1) := by decide +kernel
theorem dX7_spells_30 : decode cX7_spells 30 = .ok (.aload_n 3, 1) := by decide +kernel
theorem dX7_spells_31 : decode cX7_spells 31 = .ok (.iload 4, 2) := by decide +kernel
theorem dX7_spells_33 : decode cX7_spells 33 = .ok (.invokevirtual 99, 3) := by decide +kernel
theorem dX7_spells_36 : decode cX7_spells 36 = .ok (.if_icmp .eq 5, 3) := by decide +kernel
theorem dX7_spells_39 : decode cX7_spells 39 = .ok (.iconst 0, 1) := by decide +kernel
theorem dX7_spells_40 : decode cX7_spells 40 = .ok (.ireturn, 1) := by decide +kernel
theorem dX7_spells_41 : decode cX7_spells 41 = .ok (.iinc 4 1, 3) := by decide +kernel
theorem dX7_spells_44 : decode cX7_spells 44 = .ok (.goto (-29), 3) := by decide +kernel
theorem dX7_spells_47 : decode cX7_spells 47 = .ok (.iconst 1, 1) := by decide +kernel
theorem dX7_spells_48 : decode cX7_spells 48 = .ok (.ireturn, 1) := by decide +kernel
end
section
theorem dX8_init_0 : decode cX8_init 0 = .ok (.aload_n 0, 1) := by decide +kernel
theorem dX8_init_1 : decode cX8_init 1 = .ok (.invokespecial 1, 3) := by decide +kernel
theorem dX8_init_4 : decode cX8_init 4 = .ok (.aload_n 0, 1) := by decide +kernel
theorem dX8_init_5 : decode cX8_init 5 = .ok (.sipush 400, 3) := by decide +kernel
theorem dX8_init_8 : decode cX8_init 8 = .ok (.newarray .byte, 2) := by decide +kernel
theorem dX8_init_10 : decode cX8_init 10 = .ok (.putfield 9, 3) := by decide +kernel
theorem dX8_init_13 : decode cX8_init 13 = .ok (.aload_n 0, 1) := by decide +kernel
theorem dX8_init_14 : decode cX8_init 14 = .ok (.iconst 0, 1) := by decide +kernel
theorem dX8_init_15 : decode cX8_init 15 = .ok (.putfield 13, 3) := by decide +kernel
theorem dX8_init_18 : decode cX8_init 18 = .ok (.return_, 1) := by decide +kernel
theorem dX8_hasRoom_0 : decode cX8_hasRoom 0 = .ok (.aload_n 0, 1) := by decide +kernel
theorem dX8_hasRoom_1 : decode cX8_hasRoom 1 = .ok (.getfield 13, 3) := by decide +kernel
theorem dX8_hasRoom_4 : decode cX8_hasRoom 4 = .ok (.bipush 20, 2) := by decide +kernel
theorem dX8_hasRoom_6 : decode cX8_hasRoom 6 = .ok (.iadd, 1) := by decide +kernel
theorem dX8_hasRoom_7 : decode cX8_hasRoom 7 = .ok (.sipush 400, 3) := by decide +kernel
theorem dX8_hasRoom_10 : decode cX8_hasRoom 10 = .ok (.if_icmp .gt 7, 3) := by decide +kernel
theorem dX8_hasRoom_13 : decode cX8_hasRoom 13 = .ok (.iconst 1, 1) := by decide +kernel
theorem dX8_hasRoom_14 : decode cX8_hasRoom 14 = .ok (.goto 4, 3) := by decide +kernel
theorem dX8_hasRoom_17 : decode cX8_hasRoom 17 = .ok (.iconst 0, 1) := by decide +kernel
theorem dX8_hasRoom_18 : decode cX8_hasRoom 18 = .ok (.ireturn, 1) := by decide +kernel
theorem dX8_put_0 : decode cX8_put 0 = .ok (.bipush 24, 2) := by decide +kernel
theorem dX8_put_2 : decode cX8_put 2 = .ok (.istore_n 2, 1) := by decide +kernel
theorem dX8_put_3 : decode cX8_put 3 = .ok (.iload_n 2, 1) := by decide +kernel
theorem dX8_put_4 : decode cX8_put 4 = .ok (.ifCond .lt 42, 3) := by decide +kernel
theorem dX8_put_7 : decode cX8_put 7 = .ok (.aload_n 0, 1) := by decide +kernel
theorem dX8_put_8 : decode cX8_put 8 = .ok (.getfield 13, 3) := by decide +kernel
theorem dX8_put_11 : decode cX8_put 11 = .ok (.sipush 400, 3) := by decide +kernel
theorem dX8_put_14 : decode cX8_put 14 = .ok (.if_icmp .ge 32, 3) := by decide +kernel
theorem dX8_put_17 : decode cX8_put 17 = .ok (.aload_n 0, 1) := by decide +kernel
theorem dX8_put_18 : decode cX8_put 18 = .ok (.getfield 9, 3) := by decide +kernel
theorem dX8_put_21 : decode cX8_put 21 = .ok (.aload_n 0, 1) := by decide +kernel
theorem dX8_put_22 : decode cX8_put 22 = .ok (.getfield 13, 3) := by decide +kernel
theorem dX8_put_25 : decode cX8_put 25 = .ok (.iload_n 1, 1) := by decide +kernel
theorem dX8_put_26 : decode cX8_put 26 = .ok (.iload_n 2, 1) := by decide +kernel
theorem dX8_put_27 : decode cX8_put 27 = .ok (.iushr, 1) := by decide +kernel
theorem dX8_put_28 : decode cX8_put 28 = .ok (.i2b, 1) := by decide +kernel
theorem dX8_put_29 : decode cX8_put 29 = .ok (.bastore, 1) := by decide +kernel
theorem dX8_put_30 : decode cX8_put 30 = .ok (.aload_n 0, 1) := by decide +kernel
theorem dX8_put_31 : decode cX8_put 31 = .ok (.dup, 1) := by decide +kernel
theorem dX8_put_32 : decode cX8_put 32 = .ok (.getfield 13, 3) := by decide +kernel
theorem dX8_put_35 : decode cX8_put 35 = .ok (.iconst 1, 1) := by decide +kernel
theorem dX8_put_36 : decode cX8_put 36 = .ok (.iadd, 1) := by decide +kernel
theorem dX8_put_37 : decode cX8_put 37 = .ok (.putfield 13, 3) := by decide +kernel
theorem dX8_put_40 : decode cX8_put 40 = .ok (.iinc 2 (-8), 3) := by decide +kernel
theorem dX8_put_43 : decode cX8_put 43 = .ok (.goto (-40), 3) := by decide +kernel
theorem dX8_put_46 : decode cX8_put 46 = .ok (.return_, 1) := by decide +kernel
end
section
theorem dX9_init_0 : decode cX9_init 0 = .ok (.aload_n 0, 1) := by decide +kernel
theorem dX9_init_1 : decode cX9_init 1 = .ok (.invokespecial 1, 3) := by decide +kernel
theorem dX9_init_4 : decode cX9_init 4 = .ok (.aload_n 0, 1) := by decide +kernel
theorem dX9_init_5 : decode cX9_init 5 = .ok (.aload_n 1, 1) := by decide +kernel
theorem dX9_init_6 : decode cX9_init 6 = .ok (.putfield 7, 3) := by decide +kernel
theorem dX9_init_9 : decode cX9_init 9 = .ok (.aload_n 0, 1) := by decide +kernel
theorem dX9_init_10 : decode cX9_init 10 = .ok (.iload_n 2, 1) := by decide +kernel
theorem dX9_init_11 : decode cX9_init 11 = .ok (.putfield 13, 3) := by decide +kernel
theorem dX9_init_14 : decode cX9_init 14 = .ok (.return_, 1) := by decide +kernel
end
section
def ESL : List (String × Nat × String × Nat) := [("ArmsBook", 278, "no such person", 0), ("ArmsBook", 86, "neither father nor mother", 1), ("ArmsBook", 110, "no such bytes or year", 2), ("ArmsBook$Scanner", 58, "refuse", 3), ("ArmsBook$Scanner", 64, "differ", 4), ("ArmsBook$Scanner", 66, "fee", 5), ("ArmsBook$Scanner", 68, "and", 6), ("ArmsBook$Scanner", 70, "or", 7), ("ArmsBook$Scanner", 72, "not", 8), ("ArmsBook$Scanner", 77, "grade", 9), ("ArmsBook$Scanner", 79, "steps", 10), ("ArmsBook$Scanner", 81, "year", 11), ("ArmsBook$Scanner", 83, "born", 12), ("ArmsBook$Scanner", 85, "female", 13), ("ArmsBook$Scanner", 87, "marks", 14), ("ArmsBook$Scanner", 89, "rivals", 15), ("ArmsBook$Scanner", 91, "quarters", 16), ("ArmsBook", 166, "nothing of that number is told of people", 17), ("ArmsBook", 203, "nothing of that number is told of bearers", 18), ("ArmsBook", 205, "no such mark", 19), ("ArmsBook", 220, "no such quarter", 20), ("ArmsBook", 253, "no such copy", 21), ("ArmsBook", 270, "nothing of that number is told of copies", 22), ("ArmsBook", 275, "nothing of that number is counted", 23), ("ArmsBookModel", 9, "grade", 24), ("ArmsBookModel", 11, "steps", 25), ("ArmsBookModel", 13, "year", 26), ("ArmsBookModel", 15, "born", 27), ("ArmsBookModel", 17, "female", 28), ("ArmsBookModel", 19, "marks", 29), ("ArmsBookModel", 21, "rivals", 30), ("ArmsBookModel", 23, "quarters", 31), ("ArmsBookModel", 249, "refuse", 32), ("ArmsBookModel", 255, "differ", 33), ("ArmsBookModel", 257, "fee", 34), ("ArmsBookModel", 278, "not", 35), ("ArmsBookModel", 271, "and", 36), ("ArmsBookModel", 273, "or", 37)]
def ESN : Nat := 38
def ESlen : List Nat := [14, 25, 21, 6, 6, 3, 3, 2, 3, 5, 5, 4, 4, 6, 5, 6, 8, 40, 41, 12, 15, 12, 40, 33, 5, 5, 4, 4, 6, 5, 6, 8, 6, 6, 3, 3, 3, 2]
def ESbyt : List (List Int32) := [[110, 111, 32, 115, 117, 99, 104, 32, 112, 101, 114, 115, 111, 110], [110, 101, 105, 116, 104, 101, 114, 32, 102, 97, 116, 104, 101, 114, 32, 110, 111, 114, 32, 109, 111, 116, 104, 101, 114], [110, 111, 32, 115, 117, 99, 104, 32, 98, 121, 116, 101, 115, 32, 111, 114, 32, 121, 101, 97, 114], [114, 101, 102, 117, 115, 101], [100, 105, 102, 102, 101, 114], [102, 101, 101], [97, 110, 100], [111, 114], [110, 111, 116], [103, 114, 97, 100, 101], [115, 116, 101, 112, 115], [121, 101, 97, 114], [98, 111, 114, 110], [102, 101, 109, 97, 108, 101], [109, 97, 114, 107, 115], [114, 105, 118, 97, 108, 115], [113, 117, 97, 114, 116, 101, 114, 115], [110, 111, 116, 104, 105, 110, 103, 32, 111, 102, 32, 116, 104, 97, 116, 32, 110, 117, 109, 98, 101, 114, 32, 105, 115, 32, 116, 111, 108, 100, 32, 111, 102, 32, 112, 101, 111, 112, 108, 101], [110, 111, 116, 104, 105, 110, 103, 32, 111, 102, 32, 116, 104, 97, 116, 32, 110, 117, 109, 98, 101, 114, 32, 105, 115, 32, 116, 111, 108, 100, 32, 111, 102, 32, 98, 101, 97, 114, 101, 114, 115], [110, 111, 32, 115, 117, 99, 104, 32, 109, 97, 114, 107], [110, 111, 32, 115, 117, 99, 104, 32, 113, 117, 97, 114, 116, 101, 114], [110, 111, 32, 115, 117, 99, 104, 32, 99, 111, 112, 121], [110, 111, 116, 104, 105, 110, 103, 32, 111, 102, 32, 116, 104, 97, 116, 32, 110, 117, 109, 98, 101, 114, 32, 105, 115, 32, 116, 111, 108, 100, 32, 111, 102, 32, 99, 111, 112, 105, 101, 115], [110, 111, 116, 104, 105, 110, 103, 32, 111, 102, 32, 116, 104, 97, 116, 32, 110, 117, 109, 98, 101, 114, 32, 105, 115, 32, 99, 111, 117, 110, 116, 101, 100], [103, 114, 97, 100, 101], [115, 116, 101, 112, 115], [121, 101, 97, 114], [98, 111, 114, 110], [102, 101, 109, 97, 108, 101], [109, 97, 114, 107, 115], [114, 105, 118, 97, 108, 115], [113, 117, 97, 114, 116, 101, 114, 115], [114, 101, 102, 117, 115, 101], [100, 105, 102, 102, 101, 114], [102, 101, 101], [110, 111, 116], [97, 110, 100], [111, 114]]
def ESs (sk sv : Nat → Nat) (A : Nat → Prop) (U : State) (H : Heap) : Prop :=
  ∀ i : Nat, i < ESN → va_O "java/lang/String" (sk i) A U H ∧ va_OF "java/lang/String" "coder" "B" (.int 0) (sk i) A U H ∧ va_OF "java/lang/String" "value" "[B" (.ref (sv i)) (sk i) A U H ∧ va_T .byte (sv i) (ESlen.getD i 0) (fun j => .int ((ESbyt.getD i []).getD j 0)) A U H
theorem ESs.moved {sk sv : Nat → Nat} {A : Nat → Prop} {u U : State} {H : Heap} (hvm : u.vm.Alike U.vm) (h : ESs sk sv A u H) : ESs sk sv A U H :=
  fun i hi => ⟨va_O.moved hvm (h i hi).1, va_OF.moved hvm (h i hi).2.1, va_OF.moved hvm (h i hi).2.2.1, va_T.moved hvm (h i hi).2.2.2⟩
theorem ESs.kept {sk sv : Nat → Nat} {A : Nat → Prop} {U : State} {H H1 : Heap} (h : ESs sk sv A U H) (hq : ∀ a : Nat, a < H.size → ¬ A a → H1[a]? = H[a]?) : ESs sk sv A U H1 :=
  fun i hi => ⟨(h i hi).1.kept hq, (h i hi).2.1.kept hq, (h i hi).2.2.1.kept hq, (h i hi).2.2.2.kept hq⟩
-- PRINTED HEAD END
/-! The frame's own words: J is W over any heap that holds the world ws, with the locals by a list; a row an instruction. -/
def TW : List Cond := lw_tbl.filter goodWord
def evw : Cond → Bool
  | .fieldLinkNest .. => true
  | .methodLinkNest .. => true
  | .castable .. => true
  | _ => false
def EWL : List Cond := tables_1.filter evw
/-- what every method of the system is told beside its world: D, the array classes, the first address that is ours, the strings' addresses and their rows', the book's and the model's addresses -/
abbrev GT : Type := va_G × (Nat → ClassId) × Nat × (Nat → Nat) × (Nat → Nat) × (Nat → Nat) × (Nat → Nat)
abbrev gD (G : GT) : va_G := G.1
abbrev gct (G : GT) : Nat → ClassId := G.2.1
abbrev gB (G : GT) : Nat := G.2.2.1
abbrev gsk (G : GT) : Nat → Nat := G.2.2.2.1
abbrev gsv (G : GT) : Nat → Nat := G.2.2.2.2.1
abbrev gb (G : GT) : Nat → Nat := G.2.2.2.2.2.1
abbrev gm (G : GT) : Nat → Nat := G.2.2.2.2.2.2
abbrev gA (G : GT) : Nat → Prop := fun q => gB G ≤ q
def tyl (ct : Nat → ClassId) : List (ClassId × FieldType) := [(ct 0, .boolean), (ct 1, .int), (ct 2, .byte), (ct 3, .long), (ct 4, .object "ArmsBook$Text"), (ct 5, .object "java/lang/String")]
abbrev YT : Type := Program × Env × State × MethodId × Array Value × List Frame × Method × Code × (State → Prop)
abbrev yp (Y : YT) : Program := Y.1
abbrev ye (Y : YT) : Env := Y.2.1
abbrev ys (Y : YT) : State := Y.2.2.1
abbrev ym (Y : YT) : MethodId := Y.2.2.2.1
abbrev ya (Y : YT) : Array Value := Y.2.2.2.2.1
abbrev yb (Y : YT) : List Frame := Y.2.2.2.2.2.1
abbrev yt (Y : YT) : Method := Y.2.2.2.2.2.2.1
abbrev yc (Y : YT) : Code := Y.2.2.2.2.2.2.2.1
abbrev yQ (Y : YT) : State → Prop := Y.2.2.2.2.2.2.2.2
/-- what stands about: launch, nest words, the two statics of Throwable, the string constants -/
def EV (l : Launch) (G : GT) (U : State) : Prop :=
  l.stackTraces = false ∧ (∀ w ∈ EWL, va_Nw w U) ∧ vx_Zq Bundle.tN "UNASSIGNED_STACK" Bundle.steD (gA G) U U.heap ∧ vx_Zq Bundle.tN "SUPPRESSED_SENTINEL" Bundle.listD (gA G) U U.heap ∧
  (∀ q ∈ ESL, vk_R q.1 q.2.1 q.2.2.1 (gsk G q.2.2.2) U) ∧ ESs (gsk G) (gsv G) (gA G) U U.heap
theorem va_Nw.warmE {w : Cond} (hw : evw w = true) {s U : State} (hW : s.WarmedH U.vm) (h : va_Nw w s) : va_Nw w U := by
  cases w <;> first
    | exact va_Nw.warmF hW h
    | exact va_Nw.warmM hW h
    | (simp [evw] at hw; done)
    | (have h1 := Cond.before_shiftedFace (State.Shifted.of_warmed hW) _ rfl h; exact va_tabs rfl (rfl : (s.setVm U.vm).vm = U.vm) h1)
theorem va_Nw.sameE {w : Cond} (hw : evw w = true) {s U : State} (hv : s.vm = U.vm) (h : va_Nw w s) : va_Nw w U := by
  cases w <;> first
    | exact va_tabs rfl hv h
    | (simp [evw] at hw; done)
theorem EV.to {l : Launch} {G : GT} {s U : State} (h : EV l G s) (hB : gB G ≤ s.heap.size) (hW : s.WarmedH U.vm) (hH : ∀ q : Nat, q < gB G → U.heap[q]? = s.heap[q]?) : EV l G U := by
  obtain ⟨h1, h2, h3, h4, h5, h6⟩ := h
  have hk : ∀ a : Nat, a < s.heap.size → ¬ gA G a → U.heap[a]? = s.heap[a]? := fun a _ h => hH a (Nat.not_le.mp h)
  exact ⟨h1, fun w hw => va_Nw.warmE (List.mem_filter.mp hw).2 hW (h2 w hw), (h3.moved hW.alike).kept hk, (h4.moved hW.alike).kept hk, fun q hq => (h5 q hq).warm hW, (h6.moved hW.alike).kept hk⟩
theorem EV.same {l : Launch} {G : GT} {s U : State} (h : EV l G s) (hv : s.vm = U.vm) (hH : U.heap = s.heap) : EV l G U := by
  obtain ⟨h1, h2, h3, h4, h5, h6⟩ := h
  have ha : s.vm.Alike U.vm := by rw [hv]; exact Vm.Alike.refl _
  rw [← hH] at h3 h4 h6
  exact ⟨h1, fun w hw => va_Nw.sameE (List.mem_filter.mp hw).2 hv (h2 w hw), h3.moved ha, h4.moved ha, fun q hq => (h5 q hq).same hv.symm, h6.moved ha⟩
def CX (l : Launch) (G : GT) (cc : ByteArray) (nL : Nat) (own : String) (Y : YT) : Prop :=
  (yp Y).tables.exec = Jvm.exec ∧ (yc Y).code = cc ∧ (yc Y).maxLocals = nL ∧ (ys Y).vm.findClass own = some (ym Y).cls ∧ (∀ w ∈ TW, w.before (ya Y) (ys Y) = true) ∧
  va_K (gD G) vwCl (tyl (gct G)) (ys Y) ∧ gB G ≤ (ys Y).heap.size ∧ EV l G (ys Y) ∧ (yt Y).locks = false
def J (l : Launch) (G : GT) (R : Room) (Y : YT) (cells slots pc : Nat) (lv : List (Nat × Value)) (st : List Value) (ws : va_W) : Prop :=
  ∀ (H : Heap) (locs : List Loc) (ls : Array Slot), lv_has ls (yc Y).maxLocals lv → va_P (gD G) vwCl ws H → va_D (gA G) ws → va_S (gA G) (ys Y).heap H locs →
    W (yp Y) l (ye Y) R (ys Y) (ym Y) (ya Y) (yb Y) (yt Y) (yc Y) H locs cells slots (yQ Y) (F0 (ym Y) pc ls st)
def inb (i : Int32) (n : Nat) : Bool := !(decide (i < 0) || decide (n ≤ i.toNatClampNeg))
theorem inb_in {i : Int32} {n : Nat} (h : inb i n = true) : vp_in i n := by
  unfold inb at h
  intro h2
  simp at h
  rcases h2 with h2 | h2
  · exact absurd h2 (by simpa using h.1)
  · omega
section JR
variable {l : Launch} {G : GT} {R : Room} {Y : YT} {cells slots pc : Nat} {lv : List (Nat × Value)} {st : List Value} {ws : va_W} {cc : ByteArray} {nL : Nat} {own : String}
theorem j_iconst {n : Int} {v : Int32} (hX : CX l G cc nL own Y) (d : decode cc pc = .ok (.iconst n, 1)) (pn : Nat) (hp : pc + 1 = pn) (hv : Int32.ofInt n = v) (k : J l G R Y cells slots pn lv (.int v :: st) ws) : J l G R Y cells slots pc lv st ws :=
  fun H locs ls a b c e => lv_iconst hX.1 hX.2.1 d hv (by rw [hp]; exact k H locs ls a b c e)
theorem j_bipush {n : Int} {v : Int32} (hX : CX l G cc nL own Y) (d : decode cc pc = .ok (.bipush n, 2)) (pn : Nat) (hp : pc + 2 = pn) (hv : (Int8.ofInt n).toInt32 = v) (k : J l G R Y cells slots pn lv (.int v :: st) ws) : J l G R Y cells slots pc lv st ws :=
  fun H locs ls a b c e => lv_bipush hX.1 hX.2.1 d hv (by rw [hp]; exact k H locs ls a b c e)
theorem j_sipush {n : Int} {v : Int32} (hX : CX l G cc nL own Y) (d : decode cc pc = .ok (.sipush n, 3)) (pn : Nat) (hp : pc + 3 = pn) (hv : (Int16.ofInt n).toInt32 = v) (k : J l G R Y cells slots pn lv (.int v :: st) ws) : J l G R Y cells slots pc lv st ws :=
  fun H locs ls a b c e => lv_sipush hX.1 hX.2.1 d hv (by rw [hp]; exact k H locs ls a b c e)
theorem j_lconst {n : Fin 2} {v : Int64} (hX : CX l G cc nL own Y) (d : decode cc pc = .ok (.lconst n, 1)) (pn : Nat) (hp : pc + 1 = pn) (hv : Int64.ofNat (n : Nat) = v) (k : J l G R Y cells slots pn lv (.long v :: st) ws) : J l G R Y cells slots pc lv st ws :=
  fun H locs ls a b c e => lv_lconst hX.1 hX.2.1 d hv (by rw [hp]; exact k H locs ls a b c e)
theorem j_ldcI {idx : Nat} {v : Int32} (hX : CX l G cc nL own Y) (d : decode cc pc = .ok (.ldc idx, 2)) (pn : Nat) (hp : pc + 2 = pn) (hw : Cond.constant own idx v ∈ TW) (k : J l G R Y cells slots pn lv (.int v :: st) ws) : J l G R Y cells slots pc lv st ws :=
  fun H locs ls a b c e => lv_ldc hX.1 hX.2.1 hX.2.2.2.1 (hX.2.2.2.2.1 _ hw) d (by rw [hp]; exact k H locs ls a b c e)
theorem j_iload_n {i : Nat} {x : Int32} {z : Fin 4} (hX : CX l G cc nL own Y) (d : decode cc pc = .ok (.iload_n z, 1)) (pn : Nat) (hp : pc + 1 = pn) (kk : Nat) (hk : lv[kk]? = some (i, .int x)) (hz : (z : Nat) = i) (k : J l G R Y cells slots pn lv (.int x :: st) ws) : J l G R Y cells slots pc lv st ws :=
  fun H locs ls a b c e => lv_iload_n hX.1 hX.2.1 d hz (lv_at a kk hk) (by rw [hp]; exact k H locs ls a b c e)
theorem j_iload {i : Nat} {x : Int32} (hX : CX l G cc nL own Y) (d : decode cc pc = .ok (.iload i, 2)) (pn : Nat) (hp : pc + 2 = pn) (kk : Nat) (hk : lv[kk]? = some (i, .int x)) (k : J l G R Y cells slots pn lv (.int x :: st) ws) : J l G R Y cells slots pc lv st ws :=
  fun H locs ls a b c e => lv_iload hX.1 hX.2.1 d (lv_at a kk hk) (by rw [hp]; exact k H locs ls a b c e)
theorem j_lload_n {i : Nat} {x : Int64} {z : Fin 4} (hX : CX l G cc nL own Y) (d : decode cc pc = .ok (.lload_n z, 1)) (pn : Nat) (hp : pc + 1 = pn) (kk : Nat) (hk : lv[kk]? = some (i, .long x)) (hz : (z : Nat) = i) (k : J l G R Y cells slots pn lv (.long x :: st) ws) : J l G R Y cells slots pc lv st ws :=
  fun H locs ls a b c e => lv_lload_n hX.1 hX.2.1 d hz (lv_at a kk hk) (by rw [hp]; exact k H locs ls a b c e)
theorem j_lload {i : Nat} {x : Int64} (hX : CX l G cc nL own Y) (d : decode cc pc = .ok (.lload i, 2)) (pn : Nat) (hp : pc + 2 = pn) (kk : Nat) (hk : lv[kk]? = some (i, .long x)) (k : J l G R Y cells slots pn lv (.long x :: st) ws) : J l G R Y cells slots pc lv st ws :=
  fun H locs ls a b c e => lv_lload hX.1 hX.2.1 d (lv_at a kk hk) (by rw [hp]; exact k H locs ls a b c e)
theorem j_aload_n {i x : Nat} {z : Fin 4} (hX : CX l G cc nL own Y) (d : decode cc pc = .ok (.aload_n z, 1)) (pn : Nat) (hp : pc + 1 = pn) (kk : Nat) (hk : lv[kk]? = some (i, .ref x)) (hz : (z : Nat) = i) (k : J l G R Y cells slots pn lv (.ref x :: st) ws) : J l G R Y cells slots pc lv st ws :=
  fun H locs ls a b c e => lv_aload_n hX.1 hX.2.1 d hz (lv_at a kk hk) (by rw [hp]; exact k H locs ls a b c e)
theorem j_aload {i x : Nat} (hX : CX l G cc nL own Y) (d : decode cc pc = .ok (.aload i, 2)) (pn : Nat) (hp : pc + 2 = pn) (kk : Nat) (hk : lv[kk]? = some (i, .ref x)) (k : J l G R Y cells slots pn lv (.ref x :: st) ws) : J l G R Y cells slots pc lv st ws :=
  fun H locs ls a b c e => lv_aload hX.1 hX.2.1 d (lv_at a kk hk) (by rw [hp]; exact k H locs ls a b c e)
theorem j_istore_n {i : Nat} {x : Int32} {z : Fin 4} {lv' : List (Nat × Value)} (hX : CX l G cc nL own Y) (d : decode cc pc = .ok (.istore_n z, 1)) (pn : Nat) (hp : pc + 1 = pn) (hz : (z : Nat) = i) (hn : i < nL) (hl : (i, Value.int x) :: lv.filter (fun q => !(q.1 == i) && !(q.1 + 1 == i && q.2.category == 2)) = lv') (k : J l G R Y cells slots pn lv' st ws) : J l G R Y cells slots pc lv (.int x :: st) ws :=
  fun H locs ls a b c e => lv_istore_n hX.1 hX.2.1 d hz a (by rw [hX.2.2.1]; exact hn) hl (fun ls' a' => by rw [hp]; exact k H locs ls' a' b c e)
theorem j_istore {i : Nat} {x : Int32} {lv' : List (Nat × Value)} (hX : CX l G cc nL own Y) (d : decode cc pc = .ok (.istore i, 2)) (pn : Nat) (hp : pc + 2 = pn) (hn : i < nL) (hl : (i, Value.int x) :: lv.filter (fun q => !(q.1 == i) && !(q.1 + 1 == i && q.2.category == 2)) = lv') (k : J l G R Y cells slots pn lv' st ws) : J l G R Y cells slots pc lv (.int x :: st) ws :=
  fun H locs ls a b c e => lv_istore hX.1 hX.2.1 d a (by rw [hX.2.2.1]; exact hn) hl (fun ls' a' => by rw [hp]; exact k H locs ls' a' b c e)
theorem j_iinc {i : Nat} {x v : Int32} {n : Int} {lv' : List (Nat × Value)} (hX : CX l G cc nL own Y) (d : decode cc pc = .ok (.iinc i n, 3)) (pn : Nat) (hp : pc + 3 = pn) (kk : Nat) (hk : lv[kk]? = some (i, .int x)) (hv : x + Int32.ofInt n = v) (hn : i < nL) (hl : (i, Value.int v) :: lv.filter (fun q => !(q.1 == i) && !(q.1 + 1 == i && q.2.category == 2)) = lv') (k : J l G R Y cells slots pn lv' st ws) : J l G R Y cells slots pc lv st ws :=
  fun H locs ls a b c e => lv_iinc hX.1 hX.2.1 d a hk hv (by rw [hX.2.2.1]; exact hn) hl (fun ls' a' => by rw [hp]; exact k H locs ls' a' b c e)
theorem j_iadd {x y : Int32} (hX : CX l G cc nL own Y) (d : decode cc pc = .ok (.iadd, 1)) (pn : Nat) (hp : pc + 1 = pn) (k : J l G R Y cells slots pn lv (.int (x + y) :: st) ws) : J l G R Y cells slots pc lv (.int y :: .int x :: st) ws :=
  fun H locs ls a b c e => lv_iadd hX.1 hX.2.1 d (by rw [hp]; exact k H locs ls a b c e)
theorem j_isub {x y : Int32} (hX : CX l G cc nL own Y) (d : decode cc pc = .ok (.isub, 1)) (pn : Nat) (hp : pc + 1 = pn) (k : J l G R Y cells slots pn lv (.int (x - y) :: st) ws) : J l G R Y cells slots pc lv (.int y :: .int x :: st) ws :=
  fun H locs ls a b c e => lv_isub hX.1 hX.2.1 d (by rw [hp]; exact k H locs ls a b c e)
theorem j_imul {x y : Int32} (hX : CX l G cc nL own Y) (d : decode cc pc = .ok (.imul, 1)) (pn : Nat) (hp : pc + 1 = pn) (k : J l G R Y cells slots pn lv (.int (x * y) :: st) ws) : J l G R Y cells slots pc lv (.int y :: .int x :: st) ws :=
  fun H locs ls a b c e => lv_imul hX.1 hX.2.1 d (by rw [hp]; exact k H locs ls a b c e)
theorem j_iand {x y : Int32} (hX : CX l G cc nL own Y) (d : decode cc pc = .ok (.iand, 1)) (pn : Nat) (hp : pc + 1 = pn) (k : J l G R Y cells slots pn lv (.int (x &&& y) :: st) ws) : J l G R Y cells slots pc lv (.int y :: .int x :: st) ws :=
  fun H locs ls a b c e => lv_iand hX.1 hX.2.1 d (by rw [hp]; exact k H locs ls a b c e)
theorem j_ixor {x y : Int32} (hX : CX l G cc nL own Y) (d : decode cc pc = .ok (.ixor, 1)) (pn : Nat) (hp : pc + 1 = pn) (k : J l G R Y cells slots pn lv (.int (x ^^^ y) :: st) ws) : J l G R Y cells slots pc lv (.int y :: .int x :: st) ws :=
  fun H locs ls a b c e => lv_ixor hX.1 hX.2.1 d (by rw [hp]; exact k H locs ls a b c e)
theorem j_irem {x y : Int32} (hX : CX l G cc nL own Y) (d : decode cc pc = .ok (.irem, 1)) (pn : Nat) (hp : pc + 1 = pn) (hy : ¬ y = 0) (k : J l G R Y cells slots pn lv (.int (x - x / y * y) :: st) ws) : J l G R Y cells slots pc lv (.int y :: .int x :: st) ws :=
  fun H locs ls a b c e => lv_irem hX.1 hX.2.1 d hy (by rw [hp]; exact k H locs ls a b c e)
theorem j_ishr {x y : Int32} (hX : CX l G cc nL own Y) (d : decode cc pc = .ok (.ishr, 1)) (pn : Nat) (hp : pc + 1 = pn) (k : J l G R Y cells slots pn lv (.int (x >>> (y &&& 31)) :: st) ws) : J l G R Y cells slots pc lv (.int y :: .int x :: st) ws :=
  fun H locs ls a b c e => lv_ishr hX.1 hX.2.1 d (by rw [hp]; exact k H locs ls a b c e)
def ushr32 (x y : Int32) : Int32 := (x.toUInt32 >>> (y.toUInt32 &&& Int32.toUInt32 31)).toInt32
def ushr64 (x : Int64) (y : Int32) : Int64 := (x.toUInt64 >>> (y.toInt64.toUInt64 &&& Int64.toUInt64 63)).toInt64
def shl64 (x : Int64) (y : Int32) : Int64 := x <<< (y.toInt64 &&& 63)
theorem j_iushr {x y : Int32} (hX : CX l G cc nL own Y) (d : decode cc pc = .ok (.iushr, 1)) (pn : Nat) (hp : pc + 1 = pn) (k : J l G R Y cells slots pn lv (.int (ushr32 x y) :: st) ws) : J l G R Y cells slots pc lv (.int y :: .int x :: st) ws :=
  fun H locs ls a b c e => lv_iushr hX.1 hX.2.1 d rfl (by rw [hp]; exact k H locs ls a b c e)
theorem j_lushr {x : Int64} {y : Int32} (hX : CX l G cc nL own Y) (d : decode cc pc = .ok (.lushr, 1)) (pn : Nat) (hp : pc + 1 = pn) (k : J l G R Y cells slots pn lv (.long (ushr64 x y) :: st) ws) : J l G R Y cells slots pc lv (.int y :: .long x :: st) ws :=
  fun H locs ls a b c e => lv_lushr hX.1 hX.2.1 d rfl (by rw [hp]; exact k H locs ls a b c e)
theorem j_lshl {x : Int64} {y : Int32} (hX : CX l G cc nL own Y) (d : decode cc pc = .ok (.lshl, 1)) (pn : Nat) (hp : pc + 1 = pn) (k : J l G R Y cells slots pn lv (.long (shl64 x y) :: st) ws) : J l G R Y cells slots pc lv (.int y :: .long x :: st) ws :=
  fun H locs ls a b c e => lv_lshl hX.1 hX.2.1 d rfl (by rw [hp]; exact k H locs ls a b c e)
theorem j_land {x y : Int64} (hX : CX l G cc nL own Y) (d : decode cc pc = .ok (.land, 1)) (pn : Nat) (hp : pc + 1 = pn) (k : J l G R Y cells slots pn lv (.long (x &&& y) :: st) ws) : J l G R Y cells slots pc lv (.long y :: .long x :: st) ws :=
  fun H locs ls a b c e => lv_land hX.1 hX.2.1 d (by rw [hp]; exact k H locs ls a b c e)
theorem j_lor {x y : Int64} (hX : CX l G cc nL own Y) (d : decode cc pc = .ok (.lor, 1)) (pn : Nat) (hp : pc + 1 = pn) (k : J l G R Y cells slots pn lv (.long (x ||| y) :: st) ws) : J l G R Y cells slots pc lv (.long y :: .long x :: st) ws :=
  fun H locs ls a b c e => lv_lor hX.1 hX.2.1 d (by rw [hp]; exact k H locs ls a b c e)
theorem j_lcmp {x y : Int64} (hX : CX l G cc nL own Y) (d : decode cc pc = .ok (.lcmp, 1)) (pn : Nat) (hp : pc + 1 = pn) (k : J l G R Y cells slots pn lv (.int (lg_cmp x y) :: st) ws) : J l G R Y cells slots pc lv (.long y :: .long x :: st) ws :=
  fun H locs ls a b c e => W.lcmp hX.1 hX.2.1 d (by rw [hp]; exact k H locs ls a b c e)
theorem j_i2l {x : Int32} (hX : CX l G cc nL own Y) (d : decode cc pc = .ok (.i2l, 1)) (pn : Nat) (hp : pc + 1 = pn) (k : J l G R Y cells slots pn lv (.long x.toInt64 :: st) ws) : J l G R Y cells slots pc lv (.int x :: st) ws :=
  fun H locs ls a b c e => lv_i2l hX.1 hX.2.1 d rfl (by rw [hp]; exact k H locs ls a b c e)
theorem j_i2b {x : Int32} (hX : CX l G cc nL own Y) (d : decode cc pc = .ok (.i2b, 1)) (pn : Nat) (hp : pc + 1 = pn) (k : J l G R Y cells slots pn lv (.int x.toInt8.toInt32 :: st) ws) : J l G R Y cells slots pc lv (.int x :: st) ws :=
  fun H locs ls a b c e => lv_i2b hX.1 hX.2.1 d rfl (by rw [hp]; exact k H locs ls a b c e)
theorem j_dup {v : Value} (hX : CX l G cc nL own Y) (d : decode cc pc = .ok (.dup, 1)) (pn : Nat) (hp : pc + 1 = pn) (hv : v.category = 1) (k : J l G R Y cells slots pn lv (v :: v :: st) ws) : J l G R Y cells slots pc lv (v :: st) ws :=
  fun H locs ls a b c e => lv_dup hX.1 hX.2.1 d hv (by rw [hp]; exact k H locs ls a b c e)
theorem j_dup2 {v u : Value} (hX : CX l G cc nL own Y) (d : decode cc pc = .ok (.dup2, 1)) (pn : Nat) (hp : pc + 1 = pn) (hv : v.category = 1) (hu : u.category = 1) (k : J l G R Y cells slots pn lv (v :: u :: v :: u :: st) ws) : J l G R Y cells slots pc lv (v :: u :: st) ws :=
  fun H locs ls a b c e => lv_dup2_11 hX.1 hX.2.1 d hv hu (by rw [hp]; exact k H locs ls a b c e)
theorem j_pop {v : Value} (hX : CX l G cc nL own Y) (d : decode cc pc = .ok (.pop, 1)) (pn : Nat) (hp : pc + 1 = pn) (hv : v.category = 1) (k : J l G R Y cells slots pn lv st ws) : J l G R Y cells slots pc lv (v :: st) ws :=
  fun H locs ls a b c e => lv_pop hX.1 hX.2.1 d hv (by rw [hp]; exact k H locs ls a b c e)
theorem j_goto {off : Int} (hX : CX l G cc nL own Y) (d : decode cc pc = .ok (.goto off, 3)) (tgt : Nat) (ht : (pc : Int) + off = (tgt : Int)) (k : J l G R Y cells slots tgt lv st ws) : J l G R Y cells slots pc lv st ws :=
  fun H locs ls a b c e => lv_goto hX.1 hX.2.1 d ht (k H locs ls a b c e)
theorem j_sub {lv' : List (Nat × Value)} (ks : List Nat) (hl : lv_pick lv ks = lv') (k : J l G R Y cells slots pc lv' st ws) : J l G R Y cells slots pc lv st ws :=
  fun H locs ls a b c e => k H locs ls (lv_sub a ks hl) b c e
theorem j_ws {ws' : va_W} (hw : ws = ws') (k : J l G R Y cells slots pc lv st ws') : J l G R Y cells slots pc lv st ws := by
  subst hw
  exact k
theorem j_widen {k n : Nat} (h1 : cells ≤ k) (h2 : slots ≤ n) (kk : J l G R Y k n pc lv st ws) : J l G R Y cells slots pc lv st ws :=
  fun H locs ls a b c e => W.widen h1 h2 (kk H locs ls a b c e)
end JR
-- PRINTED TAIL
section JB
variable {l : Launch} {G : GT} {R : Room} {Y : YT} {cells slots pc : Nat} {lv : List (Nat × Value)} {st : List Value} {ws : va_W} {cc : ByteArray} {nL : Nat} {own : String}
theorem j_if_eq {x : Int32} {off : Int} (hX : CX l G cc nL own Y) (d : decode cc pc = .ok (.ifCond .eq off, 3)) (pn tgt : Nat) (hp : pc + 3 = pn) (ht : (pc : Int) + off = (tgt : Int)) (kt : x = 0 → J l G R Y cells slots tgt lv st ws) (kf : ¬ x = 0 → J l G R Y cells slots pn lv st ws) : J l G R Y cells slots pc lv (.int x :: st) ws :=
  fun H locs ls a b c e => lv_if_eq hX.1 hX.2.1 d ht (fun h => kt h H locs ls a b c e) (fun h => by rw [hp]; exact kf h H locs ls a b c e)
theorem j_if_ne {x : Int32} {off : Int} (hX : CX l G cc nL own Y) (d : decode cc pc = .ok (.ifCond .ne off, 3)) (pn tgt : Nat) (hp : pc + 3 = pn) (ht : (pc : Int) + off = (tgt : Int)) (kt : ¬ x = 0 → J l G R Y cells slots tgt lv st ws) (kf : x = 0 → J l G R Y cells slots pn lv st ws) : J l G R Y cells slots pc lv (.int x :: st) ws :=
  fun H locs ls a b c e => lv_if_ne hX.1 hX.2.1 d ht (fun h => kt h H locs ls a b c e) (fun h => by rw [hp]; exact kf h H locs ls a b c e)
theorem j_if_lt {x : Int32} {off : Int} (hX : CX l G cc nL own Y) (d : decode cc pc = .ok (.ifCond .lt off, 3)) (pn tgt : Nat) (hp : pc + 3 = pn) (ht : (pc : Int) + off = (tgt : Int)) (kt : x < 0 → J l G R Y cells slots tgt lv st ws) (kf : ¬ x < 0 → J l G R Y cells slots pn lv st ws) : J l G R Y cells slots pc lv (.int x :: st) ws :=
  fun H locs ls a b c e => lv_if_lt hX.1 hX.2.1 d ht (fun h => kt h H locs ls a b c e) (fun h => by rw [hp]; exact kf h H locs ls a b c e)
theorem j_if_ge {x : Int32} {off : Int} (hX : CX l G cc nL own Y) (d : decode cc pc = .ok (.ifCond .ge off, 3)) (pn tgt : Nat) (hp : pc + 3 = pn) (ht : (pc : Int) + off = (tgt : Int)) (kt : 0 ≤ x → J l G R Y cells slots tgt lv st ws) (kf : ¬ 0 ≤ x → J l G R Y cells slots pn lv st ws) : J l G R Y cells slots pc lv (.int x :: st) ws :=
  fun H locs ls a b c e => lv_if_ge hX.1 hX.2.1 d ht (fun h => kt h H locs ls a b c e) (fun h => by rw [hp]; exact kf h H locs ls a b c e)
theorem j_if_gt {x : Int32} {off : Int} (hX : CX l G cc nL own Y) (d : decode cc pc = .ok (.ifCond .gt off, 3)) (pn tgt : Nat) (hp : pc + 3 = pn) (ht : (pc : Int) + off = (tgt : Int)) (kt : 0 < x → J l G R Y cells slots tgt lv st ws) (kf : ¬ 0 < x → J l G R Y cells slots pn lv st ws) : J l G R Y cells slots pc lv (.int x :: st) ws :=
  fun H locs ls a b c e => lv_if_gt hX.1 hX.2.1 d ht (fun h => kt h H locs ls a b c e) (fun h => by rw [hp]; exact kf h H locs ls a b c e)
theorem j_if_le {x : Int32} {off : Int} (hX : CX l G cc nL own Y) (d : decode cc pc = .ok (.ifCond .le off, 3)) (pn tgt : Nat) (hp : pc + 3 = pn) (ht : (pc : Int) + off = (tgt : Int)) (kt : x ≤ 0 → J l G R Y cells slots tgt lv st ws) (kf : ¬ x ≤ 0 → J l G R Y cells slots pn lv st ws) : J l G R Y cells slots pc lv (.int x :: st) ws :=
  fun H locs ls a b c e => lv_if_le hX.1 hX.2.1 d ht (fun h => kt h H locs ls a b c e) (fun h => by rw [hp]; exact kf h H locs ls a b c e)
theorem j_icmp_eq {x y : Int32} {off : Int} (hX : CX l G cc nL own Y) (d : decode cc pc = .ok (.if_icmp .eq off, 3)) (pn tgt : Nat) (hp : pc + 3 = pn) (ht : (pc : Int) + off = (tgt : Int)) (kt : x = y → J l G R Y cells slots tgt lv st ws) (kf : ¬ x = y → J l G R Y cells slots pn lv st ws) : J l G R Y cells slots pc lv (.int y :: .int x :: st) ws :=
  fun H locs ls a b c e => lv_icmp_eq hX.1 hX.2.1 d ht (fun h => kt h H locs ls a b c e) (fun h => by rw [hp]; exact kf h H locs ls a b c e)
theorem j_icmp_ne {x y : Int32} {off : Int} (hX : CX l G cc nL own Y) (d : decode cc pc = .ok (.if_icmp .ne off, 3)) (pn tgt : Nat) (hp : pc + 3 = pn) (ht : (pc : Int) + off = (tgt : Int)) (kt : ¬ x = y → J l G R Y cells slots tgt lv st ws) (kf : x = y → J l G R Y cells slots pn lv st ws) : J l G R Y cells slots pc lv (.int y :: .int x :: st) ws :=
  fun H locs ls a b c e => lv_icmp_ne hX.1 hX.2.1 d ht (fun h => kt h H locs ls a b c e) (fun h => by rw [hp]; exact kf h H locs ls a b c e)
theorem j_icmp_lt {x y : Int32} {off : Int} (hX : CX l G cc nL own Y) (d : decode cc pc = .ok (.if_icmp .lt off, 3)) (pn tgt : Nat) (hp : pc + 3 = pn) (ht : (pc : Int) + off = (tgt : Int)) (kt : x < y → J l G R Y cells slots tgt lv st ws) (kf : ¬ x < y → J l G R Y cells slots pn lv st ws) : J l G R Y cells slots pc lv (.int y :: .int x :: st) ws :=
  fun H locs ls a b c e => lv_icmp_lt hX.1 hX.2.1 d ht (fun h => kt h H locs ls a b c e) (fun h => by rw [hp]; exact kf h H locs ls a b c e)
theorem j_icmp_ge {x y : Int32} {off : Int} (hX : CX l G cc nL own Y) (d : decode cc pc = .ok (.if_icmp .ge off, 3)) (pn tgt : Nat) (hp : pc + 3 = pn) (ht : (pc : Int) + off = (tgt : Int)) (kt : y ≤ x → J l G R Y cells slots tgt lv st ws) (kf : ¬ y ≤ x → J l G R Y cells slots pn lv st ws) : J l G R Y cells slots pc lv (.int y :: .int x :: st) ws :=
  fun H locs ls a b c e => lv_icmp_ge hX.1 hX.2.1 d ht (fun h => kt h H locs ls a b c e) (fun h => by rw [hp]; exact kf h H locs ls a b c e)
theorem j_icmp_gt {x y : Int32} {off : Int} (hX : CX l G cc nL own Y) (d : decode cc pc = .ok (.if_icmp .gt off, 3)) (pn tgt : Nat) (hp : pc + 3 = pn) (ht : (pc : Int) + off = (tgt : Int)) (kt : y < x → J l G R Y cells slots tgt lv st ws) (kf : ¬ y < x → J l G R Y cells slots pn lv st ws) : J l G R Y cells slots pc lv (.int y :: .int x :: st) ws :=
  fun H locs ls a b c e => lv_icmp_gt hX.1 hX.2.1 d ht (fun h => kt h H locs ls a b c e) (fun h => by rw [hp]; exact kf h H locs ls a b c e)
theorem j_icmp_le {x y : Int32} {off : Int} (hX : CX l G cc nL own Y) (d : decode cc pc = .ok (.if_icmp .le off, 3)) (pn tgt : Nat) (hp : pc + 3 = pn) (ht : (pc : Int) + off = (tgt : Int)) (kt : x ≤ y → J l G R Y cells slots tgt lv st ws) (kf : ¬ x ≤ y → J l G R Y cells slots pn lv st ws) : J l G R Y cells slots pc lv (.int y :: .int x :: st) ws :=
  fun H locs ls a b c e => lv_icmp_le hX.1 hX.2.1 d ht (fun h => kt h H locs ls a b c e) (fun h => by rw [hp]; exact kf h H locs ls a b c e)
def FG (own : String) (idx ci k : Nat) : Prop := ∃ (C : String) (T : u_T) (N : Nat), vwCl[ci]? = some (C, T, N) ∧ (∀ w ∈ u_ws C T N, w ∈ TW) ∧ k < N ∧ Cond.fieldLink own idx C (T k).2.1 (T k).2.2.1 ∈ TW ∧ (T k).1 = C
def FN (own : String) (idx ci k : Nat) : Prop := ∃ (C : String) (T : u_T) (N : Nat) (host : String), vwCl[ci]? = some (C, T, N) ∧ (∀ w ∈ u_ws C T N, w ∈ TW) ∧ k < N ∧ Cond.fieldLinkNest own idx C (T k).2.1 (T k).2.2.1 host ∈ EWL ∧ (T k).1 = C
/-- .. and may be stored: the type, the names apart, final or not -/
def FT (ci k : Nat) (ty : FieldType) (fin : Bool) : Prop := ∃ (C : String) (T : u_T) (N : Nat) (ty0 : Nat → FieldType), vwCl[ci]? = some (C, T, N) ∧ (∀ k, k < N → parseFieldDescriptor (T k).2.2.1 = some (ty0 k)) ∧ (∀ a, a < N → ∀ b, b < N → a ≠ b → (T a).2.1 ≠ (T b).2.1) ∧ parseFieldDescriptor (T k).2.2.1 = some ty ∧ (T k).2.2.2 = fin
theorem j_get {idx ci k a : Nat} {fs : List Value} {v : Value} (hX : CX l G cc nL own Y) (d : decode cc pc = .ok (.getfield idx, 3)) (pn : Nat) (hp : pc + 3 = pn) (hF : FG own idx ci k) (q0 : Nat) (he : ws[q0]? = some (a, .inr (ci, fs))) (hv : fs[k]? = some v) (kk : J l G R Y cells slots pn lv (v :: st) ws) : J l G R Y cells slots pc lv (.ref a :: st) ws := by
  obtain ⟨C, T, N, h1, h2, h3, h4, h5⟩ := hF
  exact fun H locs ls x b c e => va_get hX.1 hX.2.1 hX.2.2.2.2.1 h2 hX.2.2.2.1 hX.2.2.2.2.2.1 b q0 he h1 k h3 (hX.2.2.2.2.1 _ h4) (fun y hy => by rw [h5] at hy; exact hy) hv d (by rw [hp]; exact kk H locs ls x b c e)
theorem j_getN {idx ci k a : Nat} {fs : List Value} {v : Value} (hX : CX l G cc nL own Y) (d : decode cc pc = .ok (.getfield idx, 3)) (pn : Nat) (hp : pc + 3 = pn) (hF : FN own idx ci k) (q0 : Nat) (he : ws[q0]? = some (a, .inr (ci, fs))) (hv : fs[k]? = some v) (kk : J l G R Y cells slots pn lv (v :: st) ws) : J l G R Y cells slots pc lv (.ref a :: st) ws := by
  obtain ⟨C, T, N, host, h1, h2, h3, h4, h5⟩ := hF
  exact fun H locs ls x b c e => va_getN hX.1 hX.2.1 hX.2.2.2.2.1 h2 hX.2.2.2.1 hX.2.2.2.2.2.1 b q0 he h1 k h3 (va_Nw.use rfl (hX.2.2.2.2.2.2.2.1.2.1 _ h4)) (fun y hy => by rw [h5] at hy; exact hy) hv d (by rw [hp]; exact kk H locs ls x b c e)
theorem j_put {idx ci k a : Nat} {fs : List Value} {v : Value} {ty : FieldType} (hX : CX l G cc nL own Y) (d : decode cc pc = .ok (.putfield idx, 3)) (pn : Nat) (hp : pc + 3 = pn) (hF : FG own idx ci k) (hT : FT ci k ty false) (q0 : Nat) (he : ws[q0]? = some (a, .inr (ci, fs))) (hn : narrow ty v = v) (hfit : fits ty v = true) (hl : k < fs.length) {ws' : va_W} (hw : ws.set q0 (a, .inr (ci, fs.set k v)) = ws') (kk : J l G R Y cells slots pn lv st ws') : J l G R Y cells slots pc lv (v :: .ref a :: st) ws := by
  obtain ⟨C, T, N, h1, h2, h3, h4, h5⟩ := hF
  obtain ⟨C', T', N', ty0, g1, g2, g3, g4, g5⟩ := hT
  cases Option.some.inj (h1.symm.trans g1)
  subst hw
  exact fun H locs ls x b c e => va_put hX.1 hX.2.1 hX.2.2.2.2.1 h2 ty0 g2 g3 hX.2.2.2.1 hX.2.2.2.2.2.1 b c e q0 he h1 k h3 (hX.2.2.2.2.1 _ h4) (fun y hy => by rw [h5] at hy; exact hy) g5 g4 hn hfit hl d (fun H1 locs1 b1 c1 e1 => by rw [hp]; exact kk H1 locs1 ls x b1 c1 e1)
theorem j_putN {idx ci k a : Nat} {fs : List Value} {v : Value} {ty : FieldType} (hX : CX l G cc nL own Y) (d : decode cc pc = .ok (.putfield idx, 3)) (pn : Nat) (hp : pc + 3 = pn) (hF : FN own idx ci k) (hT : FT ci k ty false) (q0 : Nat) (he : ws[q0]? = some (a, .inr (ci, fs))) (hn : narrow ty v = v) (hfit : fits ty v = true) (hl : k < fs.length) {ws' : va_W} (hw : ws.set q0 (a, .inr (ci, fs.set k v)) = ws') (kk : J l G R Y cells slots pn lv st ws') : J l G R Y cells slots pc lv (v :: .ref a :: st) ws := by
  obtain ⟨C, T, N, host, h1, h2, h3, h4, h5⟩ := hF
  obtain ⟨C', T', N', ty0, g1, g2, g3, g4, g5⟩ := hT
  cases Option.some.inj (h1.symm.trans g1)
  subst hw
  exact fun H locs ls x b c e => va_putN hX.1 hX.2.1 hX.2.2.2.2.1 h2 ty0 g2 g3 hX.2.2.2.1 hX.2.2.2.2.2.1 b c e q0 he h1 k h3 (va_Nw.use rfl (hX.2.2.2.2.2.2.2.1.2.1 _ h4)) (fun y hy => by rw [h5] at hy; exact hy) g5 g4 hn hfit hl d (fun H1 locs1 b1 c1 e1 => by rw [hp]; exact kk H1 locs1 ls x b1 c1 e1)
theorem j_alen {a n : Nat} {cA : ClassId} {x : vp_A} {v : Int32} {ty : FieldType} (hX : CX l G cc nL own Y) (d : decode cc pc = .ok (.arraylength, 1)) (pn : Nat) (hp : pc + 1 = pn) (q0 t0 : Nat) (ha : ws[q0]? = some (a, .inl (cA, x))) (ht : (tyl (gct G))[t0]? = some (cA, ty)) (hv : Int32.ofNat x.1 = v) (kk : J l G R Y cells slots pn lv (.int v :: st) ws) : J l G R Y cells slots pc lv (.ref a :: st) ws :=
  fun H locs ls x b c e => va_alen hX.1 hX.2.1 hX.2.2.2.2.2.1 b q0 t0 ha ht hv d (by rw [hp]; exact kk H locs ls x b c e)
theorem j_iald {a n : Nat} {f : Nat → Int32} {i : Int32} (hX : CX l G cc nL own Y) (d : decode cc pc = .ok (.iaload, 1)) (pn : Nat) (hp : pc + 1 = pn) (q0 : Nat) (ha : ws[q0]? = some (a, .inl (gct G 1, n, .inl f))) (hin : inb i n = true) (kk : J l G R Y cells slots pn lv (.int (f i.toNatClampNeg) :: st) ws) : J l G R Y cells slots pc lv (.int i :: .ref a :: st) ws :=
  fun H locs ls x b c e => va_iald hX.1 hX.2.1 hX.2.2.2.2.2.1 b q0 1 ha rfl (inb_in hin) d (by rw [hp]; exact kk H locs ls x b c e)
theorem j_bald {a n : Nat} {f : Nat → Int32} {i : Int32} (hX : CX l G cc nL own Y) (d : decode cc pc = .ok (.baload, 1)) (pn : Nat) (hp : pc + 1 = pn) (q0 : Nat) (ha : ws[q0]? = some (a, .inl (gct G 2, n, .inl f))) (hin : inb i n = true) (kk : J l G R Y cells slots pn lv (.int (f i.toNatClampNeg) :: st) ws) : J l G R Y cells slots pc lv (.int i :: .ref a :: st) ws :=
  fun H locs ls x b c e => va_bald hX.1 hX.2.1 hX.2.2.2.2.2.1 b q0 2 ha rfl (inb_in hin) d (by rw [hp]; exact kk H locs ls x b c e)
theorem j_zald {a n : Nat} {f : Nat → Int32} {i : Int32} (hX : CX l G cc nL own Y) (d : decode cc pc = .ok (.baload, 1)) (pn : Nat) (hp : pc + 1 = pn) (q0 : Nat) (ha : ws[q0]? = some (a, .inl (gct G 0, n, .inl f))) (hin : inb i n = true) (kk : J l G R Y cells slots pn lv (.int (f i.toNatClampNeg) :: st) ws) : J l G R Y cells slots pc lv (.int i :: .ref a :: st) ws :=
  fun H locs ls x b c e => va_zald hX.1 hX.2.1 hX.2.2.2.2.2.1 b q0 0 ha rfl (inb_in hin) d (by rw [hp]; exact kk H locs ls x b c e)
theorem j_iast {a n : Nat} {f : Nat → Int32} {i x : Int32} (hX : CX l G cc nL own Y) (d : decode cc pc = .ok (.iastore, 1)) (pn : Nat) (hp : pc + 1 = pn) (q0 : Nat) (ha : ws[q0]? = some (a, .inl (gct G 1, n, .inl f))) (hin : inb i n = true) {ws' : va_W} (hw : ws.set q0 (a, .inl (gct G 1, n, .inl (upd f i.toNatClampNeg x))) = ws') (kk : J l G R Y cells slots pn lv st ws') : J l G R Y cells slots pc lv (.int x :: .int i :: .ref a :: st) ws := by
  subst hw
  exact fun H locs ls x b c e => va_iast hX.1 hX.2.1 hX.2.2.2.2.2.1 b c e q0 1 ha rfl (inb_in hin) d (fun H1 locs1 b1 c1 e1 => by rw [hp]; exact kk H1 locs1 ls x b1 c1 e1)
theorem j_bast {a n : Nat} {f : Nat → Int32} {i x : Int32} (hX : CX l G cc nL own Y) (d : decode cc pc = .ok (.bastore, 1)) (pn : Nat) (hp : pc + 1 = pn) (q0 : Nat) (ha : ws[q0]? = some (a, .inl (gct G 2, n, .inl f))) (hin : inb i n = true) {ws' : va_W} (hw : ws.set q0 (a, .inl (gct G 2, n, .inl (upd f i.toNatClampNeg (vp_nar .byte x)))) = ws') (kk : J l G R Y cells slots pn lv st ws') : J l G R Y cells slots pc lv (.int x :: .int i :: .ref a :: st) ws := by
  subst hw
  exact fun H locs ls x b c e => va_bast hX.1 hX.2.1 hX.2.2.2.2.2.1 b c e q0 2 ha rfl (inb_in hin) d (fun H1 locs1 b1 c1 e1 => by rw [hp]; exact kk H1 locs1 ls x b1 c1 e1)
theorem j_zast {a n : Nat} {f : Nat → Int32} {i x : Int32} (hX : CX l G cc nL own Y) (d : decode cc pc = .ok (.bastore, 1)) (pn : Nat) (hp : pc + 1 = pn) (q0 : Nat) (ha : ws[q0]? = some (a, .inl (gct G 0, n, .inl f))) (hin : inb i n = true) {ws' : va_W} (hw : ws.set q0 (a, .inl (gct G 0, n, .inl (upd f i.toNatClampNeg (vp_nar .boolean x)))) = ws') (kk : J l G R Y cells slots pn lv st ws') : J l G R Y cells slots pc lv (.int x :: .int i :: .ref a :: st) ws := by
  subst hw
  exact fun H locs ls x b c e => va_zast hX.1 hX.2.1 hX.2.2.2.2.2.1 b c e q0 0 ha rfl (inb_in hin) d (fun H1 locs1 b1 c1 e1 => by rw [hp]; exact kk H1 locs1 ls x b1 c1 e1)
theorem j_lald {a n : Nat} {f : Nat → Int64} {i : Int32} (hX : CX l G cc nL own Y) (d : decode cc pc = .ok (.laload, 1)) (pn : Nat) (hp : pc + 1 = pn) (q0 : Nat) (ha : ws[q0]? = some (a, .inl (gct G 3, n, .inr (.inl f)))) (hin : inb i n = true) (kk : J l G R Y cells slots pn lv (.long (f i.toNatClampNeg) :: st) ws) : J l G R Y cells slots pc lv (.int i :: .ref a :: st) ws :=
  fun H locs ls x b c e => va_lald hX.1 hX.2.1 hX.2.2.2.2.2.1 b q0 3 ha rfl (inb_in hin) d (by rw [hp]; exact kk H locs ls x b c e)
theorem j_last {a n : Nat} {f : Nat → Int64} {i : Int32} {x : Int64} (hX : CX l G cc nL own Y) (d : decode cc pc = .ok (.lastore, 1)) (pn : Nat) (hp : pc + 1 = pn) (q0 : Nat) (ha : ws[q0]? = some (a, .inl (gct G 3, n, .inr (.inl f)))) (hin : inb i n = true) {ws' : va_W} (hw : ws.set q0 (a, .inl (gct G 3, n, .inr (.inl (vp_updL f i.toNatClampNeg x)))) = ws') (kk : J l G R Y cells slots pn lv st ws') : J l G R Y cells slots pc lv (.long x :: .int i :: .ref a :: st) ws := by
  subst hw
  exact fun H locs ls x b c e => va_last hX.1 hX.2.1 hX.2.2.2.2.2.1 b c e q0 3 ha rfl (inb_in hin) d (fun H1 locs1 b1 c1 e1 => by rw [hp]; exact kk H1 locs1 ls x b1 c1 e1)
theorem j_lstore_n {i : Nat} {x : Int64} {z : Fin 4} {lv' : List (Nat × Value)} (hX : CX l G cc nL own Y) (d : decode cc pc = .ok (.lstore_n z, 1)) (pn : Nat) (hp : pc + 1 = pn) (hz : (z : Nat) = i) (hn : i + 1 < nL) (hl : (i, Value.long x) :: lv.filter (fun q => !(q.1 == i) && (!(q.1 == i + 1) && !(q.1 + 1 == i && q.2.category == 2))) = lv') (k : J l G R Y cells slots pn lv' st ws) : J l G R Y cells slots pc lv (.long x :: st) ws :=
  fun H locs ls a b c e => lv_lstore_n hX.1 hX.2.1 d hz a (by rw [hX.2.2.1]; exact hn) hl (fun ls' a' => by rw [hp]; exact k H locs ls' a' b c e)
theorem j_lstore {i : Nat} {x : Int64} {lv' : List (Nat × Value)} (hX : CX l G cc nL own Y) (d : decode cc pc = .ok (.lstore i, 2)) (pn : Nat) (hp : pc + 2 = pn) (hn : i + 1 < nL) (hl : (i, Value.long x) :: lv.filter (fun q => !(q.1 == i) && (!(q.1 == i + 1) && !(q.1 + 1 == i && q.2.category == 2))) = lv') (k : J l G R Y cells slots pn lv' st ws) : J l G R Y cells slots pc lv (.long x :: st) ws :=
  fun H locs ls a b c e => lv_lstore hX.1 hX.2.1 d a (by rw [hX.2.2.1]; exact hn) hl (fun ls' a' => by rw [hp]; exact k H locs ls' a' b c e)
end JB
end
section
/-! Contracts in one form: any heap that holds ws; the answer; the world ws' behind it. -/
def rmD (d mc ms : Nat) : Room := { frames := d, cells := mc, slots := ms, locals := 64 * d }
def PRE (l : Launch) (G : GT) (ws : va_W) (U : State) : Prop := gB G ≤ U.heap.size ∧ va_P (gD G) vwCl ws U.heap ∧ va_D (gA G) ws ∧ va_K (gD G) vwCl (tyl (gct G)) U ∧ EV l G U
def PO (G : GT) (ws' : va_W) : Unit → State → Prop := fun _ t => va_P (gD G) vwCl ws' t.heap ∧ va_D (gA G) ws'
theorem PRE.blind {l : Launch} {G : GT} {ws : va_W} {av : List Value} : FrameBlind (va_Pc av (PRE l G ws)) := by
  intro a U g mk h
  obtain ⟨h0, h1, h2, h3, h4, h5⟩ := h
  exact ⟨h0, h1, h2, h3, va_K.moved (u := U) (U := U.calling g mk a) (Vm.Alike.refl U.vm) h4, EV.same h5 rfl rfl⟩
theorem PRE.at {l : Launch} {G : GT} {cc : ByteArray} {nL : Nat} {own : String} {Y : YT} {ws : va_W} {H : Heap} {locs : List Loc} (hX : CX l G cc nL own Y) (hP : va_P (gD G) vwCl ws H) (hD : va_D (gA G) ws) (hS : va_S (gA G) (ys Y).heap H locs) {U : State} (hU : U.heap = H) (hW : (ys Y).WarmedH U.vm) : PRE l G ws U := by
  have hB : gB G ≤ (ys Y).heap.size := hX.2.2.2.2.2.2.1
  refine ⟨?_, by rw [hU]; exact hP, hD, va_K.moved hW.alike hX.2.2.2.2.2.1, hX.2.2.2.2.2.2.2.1.to hB hW fun q hq => ?_⟩
  · rw [hU]; exact Nat.le_trans hB hS.1
  · rw [hU]; exact hS.2.1 q (Nat.lt_of_lt_of_le hq hB) (Nat.not_le.mpr hq)
def Ci (l : Launch) (G : GT) (d mc ms : Nat) (y : MethodName) (cc : ByteArray) (nL : Nat) (ty : FieldType) (av : List Value) (ws : va_W) (r : Int32) (ws' : va_W) : Prop :=
  Met l y (.code y cc nL (some ty) :: TW) (rmD d mc ms) (va_Pc av (PRE l G ws)) (va_Qi (fun (r' : Int32) (_ : Unit) => r' = r) (PO G ws') (gA G)) mc ms (gA G)
def Cl (l : Launch) (G : GT) (d mc ms : Nat) (y : MethodName) (cc : ByteArray) (nL : Nat) (av : List Value) (ws : va_W) (r : Int64) (ws' : va_W) : Prop :=
  Met l y (.code y cc nL (some .long) :: TW) (rmD d mc ms) (va_Pc av (PRE l G ws)) (va_Ql (fun (r' : Int64) (_ : Unit) => r' = r) (PO G ws') (gA G)) mc ms (gA G)
def Cv (l : Launch) (G : GT) (d mc ms : Nat) (y : MethodName) (cc : ByteArray) (nL : Nat) (av : List Value) (ws : va_W) (ws' : va_W) : Prop :=
  Met l y (.code y cc nL none :: TW) (rmD d mc ms) (va_Pc av (PRE l G ws)) (va_Qv (fun (_ : Unit) => True) (PO G ws') (gA G)) mc ms (gA G)
def EQi (G : GT) (Y : YT) (mc ms : Nat) (ty : FieldType) (r : Int32) (ws' : va_W) : Prop := (yt Y).sig.returnType = some ty ∧ yQ Y = MQ (yb Y) (va_Qi (fun (r' : Int32) (_ : Unit) => r' = r) (PO G ws') (gA G)) (ya Y) (ys Y) mc ms (gA G)
def EQl (G : GT) (Y : YT) (mc ms : Nat) (r : Int64) (ws' : va_W) : Prop := (yt Y).sig.returnType = some .long ∧ yQ Y = MQ (yb Y) (va_Ql (fun (r' : Int64) (_ : Unit) => r' = r) (PO G ws') (gA G)) (ya Y) (ys Y) mc ms (gA G)
def EQv (G : GT) (Y : YT) (mc ms : Nat) (ws' : va_W) : Prop := (yt Y).sig.returnType = none ∧ yQ Y = MQ (yb Y) (va_Qv (fun (_ : Unit) => True) (PO G ws') (gA G)) (ya Y) (ys Y) mc ms (gA G)
section JC
variable {l : Launch} {G : GT} {d mc ms : Nat} {y : MethodName} {cc : ByteArray} {nL : Nat} {ty : FieldType} {av : List Value} {ws ws' : va_W}
theorem Ci.of {r : Int32} (hy : plainName y.cls = true) (hlen : (lg_sl av).length ≤ nL) (body : ∀ Y : YT, CX l G cc nL y.cls Y → EQi G Y mc ms ty r ws' → J l G (rmD d mc ms) Y 0 0 0 (lv_args 0 av) [] ws) : Ci l G d mc ms y cc nL ty av ws r ws' := by
  refine Met.ofW (cc := cc) (maxL := nL) (ret := some ty) hy rfl ?_
  intro p e s m args below meth c s₁ B hml hv
  obtain ⟨rfl, hB, hP, hD, hK, hE⟩ := hv
  have hts := atoms_spec (ws := .code y cc nL (some ty) :: TW) B.pre
  have hown : s.vm.findClass y.cls = some m.cls := findClass_of_methodNamed B.named
  have hl := lv_entry av (n := nL) hlen
  rw [lg_entry_eq]
  exact body (p, e, s, m, av.toArray, below, meth, c, _) ⟨B.exec, B.bytes, hml, hown, fun w hw => hts w (List.mem_cons_of_mem _ hw), hK, hB, hE, B.notSynchronized⟩ ⟨B.returns, rfl⟩ s.heap [] _ (by show lv_has _ c.maxLocals _; rw [hml]; exact hl) hP hD va_S.rf
theorem Cl.of {r : Int64} (hy : plainName y.cls = true) (hlen : (lg_sl av).length ≤ nL) (body : ∀ Y : YT, CX l G cc nL y.cls Y → EQl G Y mc ms r ws' → J l G (rmD d mc ms) Y 0 0 0 (lv_args 0 av) [] ws) : Cl l G d mc ms y cc nL av ws r ws' := by
  refine Met.ofW (cc := cc) (maxL := nL) (ret := some .long) hy rfl ?_
  intro p e s m args below meth c s₁ B hml hv
  obtain ⟨rfl, hB, hP, hD, hK, hE⟩ := hv
  have hts := atoms_spec (ws := .code y cc nL (some .long) :: TW) B.pre
  have hown : s.vm.findClass y.cls = some m.cls := findClass_of_methodNamed B.named
  have hl := lv_entry av (n := nL) hlen
  rw [lg_entry_eq]
  exact body (p, e, s, m, av.toArray, below, meth, c, _) ⟨B.exec, B.bytes, hml, hown, fun w hw => hts w (List.mem_cons_of_mem _ hw), hK, hB, hE, B.notSynchronized⟩ ⟨B.returns, rfl⟩ s.heap [] _ (by show lv_has _ c.maxLocals _; rw [hml]; exact hl) hP hD va_S.rf
theorem Cv.of (hy : plainName y.cls = true) (hlen : (lg_sl av).length ≤ nL) (body : ∀ Y : YT, CX l G cc nL y.cls Y → EQv G Y mc ms ws' → J l G (rmD d mc ms) Y 0 0 0 (lv_args 0 av) [] ws) : Cv l G d mc ms y cc nL av ws ws' := by
  refine Met.ofW (cc := cc) (maxL := nL) (ret := none) hy rfl ?_
  intro p e s m args below meth c s₁ B hml hv
  obtain ⟨rfl, hB, hP, hD, hK, hE⟩ := hv
  have hts := atoms_spec (ws := .code y cc nL none :: TW) B.pre
  have hown : s.vm.findClass y.cls = some m.cls := findClass_of_methodNamed B.named
  have hl := lv_entry av (n := nL) hlen
  rw [lg_entry_eq]
  exact body (p, e, s, m, av.toArray, below, meth, c, _) ⟨B.exec, B.bytes, hml, hown, fun w hw => hts w (List.mem_cons_of_mem _ hw), hK, hB, hE, B.notSynchronized⟩ ⟨B.returns, rfl⟩ s.heap [] _ (by show lv_has _ c.maxLocals _; rw [hml]; exact hl) hP hD va_S.rf
end JC
def isB (v : Int32) : Bool := decide (v = 0) || decide (v = 1)
theorem isB_n {v : Int32} (h : isB v = true) : narrow .boolean (.int v) = .int v := by
  unfold isB at h
  simp at h
  rcases h with rfl | rfl <;> rfl
section JE
variable {l : Launch} {G : GT} {R : Room} {Y : YT} {cells slots pc : Nat} {lv : List (Nat × Value)} {st : List Value} {ws : va_W} {cc : ByteArray} {nL : Nat} {own : String}
theorem j_iret {r : Int32} (hX : CX l G cc nL own Y) (hQ : EQi G Y cells slots .int r ws) (d : decode cc pc = .ok (.ireturn, 1)) : J l G R Y cells slots pc lv [.int r] ws := by
  intro H locs ls a b c e
  rw [hQ.2]
  have hlk : (yt Y).locks = false := hX.2.2.2.2.2.2.2.2
  exact W.iret (v := r) hX.1 hX.2.1 hQ.1 (fun t ht hW => ⟨⟨r, (), rfl, rfl, by rw [ht]; exact b, c⟩, e.F ht⟩) e.2.2 d hlk
theorem j_zret {r : Int32} (hX : CX l G cc nL own Y) (hQ : EQi G Y cells slots .boolean r ws) (hb : isB r = true) (d : decode cc pc = .ok (.ireturn, 1)) : J l G R Y cells slots pc lv [.int r] ws := by
  intro H locs ls a b c e
  rw [hQ.2]
  have hlk : (yt Y).locks = false := hX.2.2.2.2.2.2.2.2
  exact W.zret (v := r) hX.1 hX.2.1 hQ.1 (isB_n hb) (fun t ht hW => ⟨⟨r, (), rfl, rfl, by rw [ht]; exact b, c⟩, e.F ht⟩) e.2.2 d hlk
theorem j_lret {r : Int64} (hX : CX l G cc nL own Y) (hQ : EQl G Y cells slots r ws) (d : decode cc pc = .ok (.lreturn, 1)) : J l G R Y cells slots pc lv [.long r] ws := by
  intro H locs ls a b c e
  rw [hQ.2]
  have hlk : (yt Y).locks = false := hX.2.2.2.2.2.2.2.2
  exact W.lret (v := r) hX.1 hX.2.1 hQ.1 (fun t ht hW => ⟨⟨r, (), rfl, rfl, by rw [ht]; exact b, c⟩, e.F ht⟩) e.2.2 d hlk
theorem j_vret (hX : CX l G cc nL own Y) (hQ : EQv G Y cells slots ws) (d : decode cc pc = .ok (.return_, 1)) : J l G R Y cells slots pc lv [] ws := by
  intro H locs ls a b c e
  rw [hQ.2]
  have hlk : (yt Y).locks = false := hX.2.2.2.2.2.2.2.2
  exact W.vret hX.1 hX.2.1 hQ.1 (fun t ht hW => ⟨⟨(), rfl, trivial, by rw [ht]; exact b, c⟩, e.F ht⟩) e.2.2 d hlk
end JE
theorem goodTW : GoodIn TW TW := fun w hw => ⟨hw, good_of_word (List.mem_filter.mp hw).2⟩
theorem goodTWc {w : Cond} (h : w ∈ TW) : GoodIn TW (w :: TW) := fun v hv => (List.mem_cons.mp hv).elim (fun e => by rw [e]; exact goodTW w h) (goodTW v)
def MC (y : MethodName) (bytes : ByteArray) (maxL : Nat) (ret : Option FieldType) (n : Nat) : Prop :=
  Cond.code y bytes maxL ret ∈ TW ∧ Cond.initialized y.cls ∈ TW ∧ (y.cls ≠ "java/lang/invoke/MethodHandle" ∧ y.cls ≠ "java/lang/invoke/VarHandle" ∧ (parseMethodDescriptor y.desc).map (fun d => d.parameters.length) = some n) ∧ maxL ≤ 40
def MV (y : MethodName) : Prop := Cond.instanceMethod y ∈ TW ∧ Cond.selects y.cls y y ∈ TW
section JK
variable {l : Launch} {G : GT} {Y : YT} {cells slots pc : Nat} {lv : List (Nat × Value)} {st rest As : List Value} {ws ws' : va_W} {cc : ByteArray} {nL : Nat} {own : String} {d d' mc ms mR sR idx maxL n : Nat} {y : MethodName} {bytes : ByteArray} {ty : FieldType}
theorem cB {ret : Option FieldType} {R : Room} (hX : CX l G cc nL own Y) (hm : MC y bytes maxL ret n) (hl : Cond.methodLink own idx y ∈ TW) (hd : d' + 1 ≤ d) : CallB (rmD d mR sR) (ys Y) (ya Y) own idx y bytes maxL ret (.code y bytes maxL ret :: TW) (rmD d' mc ms) mc ms n := by
  obtain ⟨h1, h2, h3, h4⟩ := hm
  refine callB_of n hX.2.2.2.2.1 (goodTWc h1) rfl rfl rfl (hX.2.2.2.2.1 _ h2) (hX.2.2.2.2.1 _ hl) h3 ⟨hd, ?_⟩
  show 8 + (maxL + 11) + 64 * d' ≤ 64 * d
  omega
theorem jV_i {a q0 ci N : Nat} {T : u_T} {fs : List Value} {r : Int32} (hX : CX l G cc nL own Y) (dd : decode cc pc = .ok (.invokevirtual idx, 3)) (pn : Nat) (hp : pc + 3 = pn) (hC : Ci l G d' mc ms y bytes maxL ty (.ref a :: As) ws r ws') (hm : MC y bytes maxL (some ty) As.length) (hv : MV y) (hl : Cond.methodLink own idx y ∈ TW) (he : ws[q0]? = some (a, .inr (ci, fs))) (hc : vwCl[ci]? = some (y.cls, T, N)) (hd : d' + 1 ≤ d) (hr1 : cells + mc ≤ mR) (hr2 : slots + ms ≤ sR) (hst : st = As.reverse ++ .ref a :: rest) (hW : (rest.map fun v => v.category).sum ≤ 8) (kk : J l G (rmD d mR sR) Y (cells + mc) (slots + ms) pn lv (.int r :: rest) ws') : J l G (rmD d mR sR) Y cells slots pc lv st ws := by
  intro H locs ls a0 b c e
  subst hst
  refine va_calli (va_runV (As := As) (rest := rest) (b := a) (C := y.cls) (n := As.length) (nL := nL) (g := F0 (ym Y) pc ls (As.reverse ++ .ref a :: rest)) ⟨hX.1, hX.2.1, hX.2.2.1, hX.2.2.2.1, hX.2.2.2.2.1⟩ hC ⟨cB (R := rmD d mR sR) hX hm hl hd, hX.2.2.2.2.1 _ hv.1, hX.2.2.2.2.1 _ hv.2⟩ ⟨PRE.blind, va_recv hX.2.2.2.2.2.1 b hc he, fun U hU hW9 => ⟨rfl, PRE.at hX b c e hU hW9⟩⟩ rfl rfl (a0.1.trans hX.2.2.1) rfl ?_ dd ⟨hr1, hr2⟩) e (fun _ _ h => h) (fun _ h => h) (fun r1 u t H1 locs1 ht hvm hpo hB hz hk hS => ?_)
  · show 2 * 0 + _ ≤ 8
    omega
  · subst hpo
    rw [hp]
    rw [← ht] at hS ⊢
    exact kk t.heap locs1 ls a0 hB.1 hB.2 hS
theorem jV_l {a q0 ci N : Nat} {T : u_T} {fs : List Value} {r : Int64} (hX : CX l G cc nL own Y) (dd : decode cc pc = .ok (.invokevirtual idx, 3)) (pn : Nat) (hp : pc + 3 = pn) (hC : Cl l G d' mc ms y bytes maxL (.ref a :: As) ws r ws') (hm : MC y bytes maxL (some .long) As.length) (hv : MV y) (hl : Cond.methodLink own idx y ∈ TW) (he : ws[q0]? = some (a, .inr (ci, fs))) (hc : vwCl[ci]? = some (y.cls, T, N)) (hd : d' + 1 ≤ d) (hr1 : cells + mc ≤ mR) (hr2 : slots + ms ≤ sR) (hst : st = As.reverse ++ .ref a :: rest) (hW : (rest.map fun v => v.category).sum ≤ 8) (kk : J l G (rmD d mR sR) Y (cells + mc) (slots + ms) pn lv (.long r :: rest) ws') : J l G (rmD d mR sR) Y cells slots pc lv st ws := by
  intro H locs ls a0 b c e
  subst hst
  refine va_calll (va_runV (As := As) (rest := rest) (b := a) (C := y.cls) (n := As.length) (nL := nL) (g := F0 (ym Y) pc ls (As.reverse ++ .ref a :: rest)) ⟨hX.1, hX.2.1, hX.2.2.1, hX.2.2.2.1, hX.2.2.2.2.1⟩ hC ⟨cB (R := rmD d mR sR) hX hm hl hd, hX.2.2.2.2.1 _ hv.1, hX.2.2.2.2.1 _ hv.2⟩ ⟨PRE.blind, va_recv hX.2.2.2.2.2.1 b hc he, fun U hU hW9 => ⟨rfl, PRE.at hX b c e hU hW9⟩⟩ rfl rfl (a0.1.trans hX.2.2.1) rfl ?_ dd ⟨hr1, hr2⟩) e (fun _ _ h => h) (fun _ h => h) (fun r1 u t H1 locs1 ht hvm hpo hB hz hk hS => ?_)
  · show 2 * 0 + _ ≤ 8
    omega
  · subst hpo
    rw [hp]
    rw [← ht] at hS ⊢
    exact kk t.heap locs1 ls a0 hB.1 hB.2 hS
theorem jV_v {a q0 ci N : Nat} {T : u_T} {fs : List Value} (hX : CX l G cc nL own Y) (dd : decode cc pc = .ok (.invokevirtual idx, 3)) (pn : Nat) (hp : pc + 3 = pn) (hC : Cv l G d' mc ms y bytes maxL (.ref a :: As) ws ws') (hm : MC y bytes maxL none As.length) (hv : MV y) (hl : Cond.methodLink own idx y ∈ TW) (he : ws[q0]? = some (a, .inr (ci, fs))) (hc : vwCl[ci]? = some (y.cls, T, N)) (hd : d' + 1 ≤ d) (hr1 : cells + mc ≤ mR) (hr2 : slots + ms ≤ sR) (hst : st = As.reverse ++ .ref a :: rest) (hW : (rest.map fun v => v.category).sum ≤ 8) (kk : J l G (rmD d mR sR) Y (cells + mc) (slots + ms) pn lv rest ws') : J l G (rmD d mR sR) Y cells slots pc lv st ws := by
  intro H locs ls a0 b c e
  subst hst
  refine va_callv (va_runV (As := As) (rest := rest) (b := a) (C := y.cls) (n := As.length) (nL := nL) (g := F0 (ym Y) pc ls (As.reverse ++ .ref a :: rest)) ⟨hX.1, hX.2.1, hX.2.2.1, hX.2.2.2.1, hX.2.2.2.2.1⟩ hC ⟨cB (R := rmD d mR sR) hX hm hl hd, hX.2.2.2.2.1 _ hv.1, hX.2.2.2.2.1 _ hv.2⟩ ⟨PRE.blind, va_recv hX.2.2.2.2.2.1 b hc he, fun U hU hW9 => ⟨rfl, PRE.at hX b c e hU hW9⟩⟩ rfl rfl (a0.1.trans hX.2.2.1) rfl ?_ dd ⟨hr1, hr2⟩) e (fun _ _ h => h) (fun _ h => h) (fun u t H1 locs1 ht hvm hpo hB hz hk hS => ?_)
  · show 2 * 0 + _ ≤ 8
    omega
  · rw [hp]
    rw [← ht] at hS ⊢
    exact kk t.heap locs1 ls a0 hB.1 hB.2 hS
theorem jS_i {r : Int32} (hX : CX l G cc nL own Y) (dd : decode cc pc = .ok (.invokestatic idx, 3)) (pn : Nat) (hp : pc + 3 = pn) (hC : Ci l G d' mc ms y bytes maxL ty As ws r ws') (hm : MC y bytes maxL (some ty) As.length) (hv : Cond.static y ∈ TW) (hl : Cond.methodLink own idx y ∈ TW) (hd : d' + 1 ≤ d) (hr1 : cells + mc ≤ mR) (hr2 : slots + ms ≤ sR) (hst : st = As.reverse ++ rest) (hW : (rest.map fun v => v.category).sum ≤ 8) (kk : J l G (rmD d mR sR) Y (cells + mc) (slots + ms) pn lv (.int r :: rest) ws') : J l G (rmD d mR sR) Y cells slots pc lv st ws := by
  intro H locs ls a0 b c e
  subst hst
  refine va_calli (va_runS (As := As) (rest := rest) (n := As.length) (nL := nL) (g := F0 (ym Y) pc ls (As.reverse ++ rest)) ⟨hX.1, hX.2.1, hX.2.2.1, hX.2.2.2.1, hX.2.2.2.2.1⟩ hC ⟨cB (R := rmD d mR sR) hX hm hl hd, hX.2.2.2.2.1 _ hv⟩ ⟨PRE.blind, fun U hU hW9 => ⟨rfl, PRE.at hX b c e hU hW9⟩⟩ rfl rfl (a0.1.trans hX.2.2.1) rfl ?_ dd ⟨hr1, hr2⟩) e (fun _ _ h => h) (fun _ h => h) (fun r1 u t H1 locs1 ht hvm hpo hB hz hk hS => ?_)
  · show 2 * 0 + _ ≤ 8
    omega
  · subst hpo
    rw [hp]
    rw [← ht] at hS ⊢
    exact kk t.heap locs1 ls a0 hB.1 hB.2 hS
end JK
theorem itt {α : Type} {c : Prop} [hd : Decidable c] {a b r : α} (h : c) (hf : (if c then a else b) = r) : a = r := by rw [if_pos h] at hf; exact hf
theorem itf {α : Type} {c : Prop} [hd : Decidable c] {a b r : α} (h : ¬ c) (hf : (if c then a else b) = r) : b = r := by rw [if_neg h] at hf; exact hf
theorem ign {α : Type} {b : Bool} {a : Option α} {r : α} (hf : (if b = true then a else none) = some r) : b = true ∧ a = some r := by
  cases b
  · cases hf
  · exact ⟨rfl, hf⟩
theorem ibd {α β : Type} {o : Option α} {k : α → Option β} {r : β} (hf : o.bind k = some r) : ∃ v, o = some v ∧ k v = some r := by
  cases o with
  | none => cases hf
  | some v => exact ⟨v, rfl, hf⟩
end
section
theorem inTW {w : Cond} (i : Nat) (h : lw_tbl[i]? = some w) (g : goodWord w = true) : w ∈ TW := List.mem_filter.mpr ⟨List.mem_of_getElem? h, g⟩
theorem inEW {w : Cond} (i : Nat) (h : tables_1[i]? = some w) (g : evw w = true) : w ∈ EWL := List.mem_filter.mpr ⟨List.mem_of_getElem? h, g⟩
theorem inTWs (ws : List Cond) (ps : List Nat) (hp : ws = ps.filterMap (fun i => lw_tbl[i]?)) (h : ws.all goodWord = true) : ∀ w ∈ ws, w ∈ TW := fun w hw => List.mem_filter.mpr ⟨(goodIn_r ws ps hp h w hw).1, List.all_eq_true.mp h w hw⟩
set_option maxRecDepth 20000 in
theorem uw_X0 : ∀ w ∈ u_ws RX0 TX0 3, w ∈ TW := inTWs _ [312, 314, 316] (by decide +kernel) (by decide +kernel)
theorem ft_X0_0 : FT 0 0 (.array .int) true := ⟨RX0, TX0, 3, tyX0, rfl, tyX0_ok, nmX0, by decide +kernel, rfl⟩
theorem ft_X0_1 : FT 0 1 (.array .int) true := ⟨RX0, TX0, 3, tyX0, rfl, tyX0_ok, nmX0, by decide +kernel, rfl⟩
theorem ft_X0_2 : FT 0 2 .int false := ⟨RX0, TX0, 3, tyX0, rfl, tyX0_ok, nmX0, by decide +kernel, rfl⟩
set_option maxRecDepth 20000 in
theorem uw_X1 : ∀ w ∈ u_ws RX1 TX1 4, w ∈ TW := inTWs _ [149, 151, 153, 155] (by decide +kernel) (by decide +kernel)
theorem ft_X1_0 : FT 1 0 (.array .int) true := ⟨RX1, TX1, 4, tyX1, rfl, tyX1_ok, nmX1, by decide +kernel, rfl⟩
theorem ft_X1_1 : FT 1 1 (.array .int) true := ⟨RX1, TX1, 4, tyX1, rfl, tyX1_ok, nmX1, by decide +kernel, rfl⟩
theorem ft_X1_2 : FT 1 2 (.array .int) true := ⟨RX1, TX1, 4, tyX1, rfl, tyX1_ok, nmX1, by decide +kernel, rfl⟩
theorem ft_X1_3 : FT 1 3 .int false := ⟨RX1, TX1, 4, tyX1, rfl, tyX1_ok, nmX1, by decide +kernel, rfl⟩
set_option maxRecDepth 20000 in
theorem uw_X2 : ∀ w ∈ u_ws RX2 TX2 8, w ∈ TW := inTWs _ [285, 287, 289, 291, 293, 295, 297, 299] (by decide +kernel) (by decide +kernel)
theorem ft_X2_0 : FT 2 0 (.array (.object "ArmsBook$Text")) true := ⟨RX2, TX2, 8, tyX2, rfl, tyX2_ok, nmX2, by decide +kernel, rfl⟩
theorem ft_X2_1 : FT 2 1 (.array .int) true := ⟨RX2, TX2, 8, tyX2, rfl, tyX2_ok, nmX2, by decide +kernel, rfl⟩
theorem ft_X2_2 : FT 2 2 (.array .int) true := ⟨RX2, TX2, 8, tyX2, rfl, tyX2_ok, nmX2, by decide +kernel, rfl⟩
theorem ft_X2_3 : FT 2 3 .int false := ⟨RX2, TX2, 8, tyX2, rfl, tyX2_ok, nmX2, by decide +kernel, rfl⟩
theorem ft_X2_4 : FT 2 4 .int false := ⟨RX2, TX2, 8, tyX2, rfl, tyX2_ok, nmX2, by decide +kernel, rfl⟩
theorem ft_X2_5 : FT 2 5 .boolean false := ⟨RX2, TX2, 8, tyX2, rfl, tyX2_ok, nmX2, by decide +kernel, rfl⟩
theorem ft_X2_6 : FT 2 6 .boolean false := ⟨RX2, TX2, 8, tyX2, rfl, tyX2_ok, nmX2, by decide +kernel, rfl⟩
theorem ft_X2_7 : FT 2 7 .int false := ⟨RX2, TX2, 8, tyX2, rfl, tyX2_ok, nmX2, by decide +kernel, rfl⟩
set_option maxRecDepth 20000 in
theorem uw_X3 : ∀ w ∈ u_ws RX3 TX3 7, w ∈ TW := inTWs _ [250, 252, 254, 256, 258, 260, 262] (by decide +kernel) (by decide +kernel)
theorem ft_X3_0 : FT 3 0 (.object "ArmsBook$Scanner") true := ⟨RX3, TX3, 7, tyX3, rfl, tyX3_ok, nmX3, by decide +kernel, rfl⟩
theorem ft_X3_1 : FT 3 1 (.array .int) true := ⟨RX3, TX3, 7, tyX3, rfl, tyX3_ok, nmX3, by decide +kernel, rfl⟩
theorem ft_X3_2 : FT 3 2 .int false := ⟨RX3, TX3, 7, tyX3, rfl, tyX3_ok, nmX3, by decide +kernel, rfl⟩
theorem ft_X3_3 : FT 3 3 .int false := ⟨RX3, TX3, 7, tyX3, rfl, tyX3_ok, nmX3, by decide +kernel, rfl⟩
theorem ft_X3_4 : FT 3 4 .int false := ⟨RX3, TX3, 7, tyX3, rfl, tyX3_ok, nmX3, by decide +kernel, rfl⟩
theorem ft_X3_5 : FT 3 5 .int false := ⟨RX3, TX3, 7, tyX3, rfl, tyX3_ok, nmX3, by decide +kernel, rfl⟩
theorem ft_X3_6 : FT 3 6 .int false := ⟨RX3, TX3, 7, tyX3, rfl, tyX3_ok, nmX3, by decide +kernel, rfl⟩
set_option maxRecDepth 20000 in
theorem uw_X4 : ∀ w ∈ u_ws RX4 TX4 9, w ∈ TW := inTWs _ [117, 119, 121, 123, 125, 127, 129, 131, 133] (by decide +kernel) (by decide +kernel)
theorem ft_X4_0 : FT 4 0 (.array .boolean) true := ⟨RX4, TX4, 9, tyX4, rfl, tyX4_ok, nmX4, by decide +kernel, rfl⟩
theorem ft_X4_1 : FT 4 1 (.array .int) true := ⟨RX4, TX4, 9, tyX4, rfl, tyX4_ok, nmX4, by decide +kernel, rfl⟩
theorem ft_X4_2 : FT 4 2 (.array .int) true := ⟨RX4, TX4, 9, tyX4, rfl, tyX4_ok, nmX4, by decide +kernel, rfl⟩
theorem ft_X4_3 : FT 4 3 (.array .int) true := ⟨RX4, TX4, 9, tyX4, rfl, tyX4_ok, nmX4, by decide +kernel, rfl⟩
theorem ft_X4_4 : FT 4 4 (.array .int) true := ⟨RX4, TX4, 9, tyX4, rfl, tyX4_ok, nmX4, by decide +kernel, rfl⟩
theorem ft_X4_5 : FT 4 5 (.array .int) true := ⟨RX4, TX4, 9, tyX4, rfl, tyX4_ok, nmX4, by decide +kernel, rfl⟩
theorem ft_X4_6 : FT 4 6 (.array .int) true := ⟨RX4, TX4, 9, tyX4, rfl, tyX4_ok, nmX4, by decide +kernel, rfl⟩
theorem ft_X4_7 : FT 4 7 (.array .int) true := ⟨RX4, TX4, 9, tyX4, rfl, tyX4_ok, nmX4, by decide +kernel, rfl⟩
theorem ft_X4_8 : FT 4 8 .int false := ⟨RX4, TX4, 9, tyX4, rfl, tyX4_ok, nmX4, by decide +kernel, rfl⟩
set_option maxRecDepth 20000 in
theorem uw_X5 : ∀ w ∈ u_ws RX5 TX5 6, w ∈ TW := inTWs _ [175, 177, 179, 181, 183, 185] (by decide +kernel) (by decide +kernel)
theorem ft_X5_0 : FT 5 0 (.array .int) true := ⟨RX5, TX5, 6, tyX5, rfl, tyX5_ok, nmX5, by decide +kernel, rfl⟩
theorem ft_X5_1 : FT 5 1 .int false := ⟨RX5, TX5, 6, tyX5, rfl, tyX5_ok, nmX5, by decide +kernel, rfl⟩
theorem ft_X5_2 : FT 5 2 .int false := ⟨RX5, TX5, 6, tyX5, rfl, tyX5_ok, nmX5, by decide +kernel, rfl⟩
theorem ft_X5_3 : FT 5 3 .int false := ⟨RX5, TX5, 6, tyX5, rfl, tyX5_ok, nmX5, by decide +kernel, rfl⟩
theorem ft_X5_4 : FT 5 4 .int false := ⟨RX5, TX5, 6, tyX5, rfl, tyX5_ok, nmX5, by decide +kernel, rfl⟩
theorem ft_X5_5 : FT 5 5 .int false := ⟨RX5, TX5, 6, tyX5, rfl, tyX5_ok, nmX5, by decide +kernel, rfl⟩
set_option maxRecDepth 20000 in
theorem uw_X6 : ∀ w ∈ u_ws RX6 TX6 2, w ∈ TW := inTWs _ [196, 198] (by decide +kernel) (by decide +kernel)
theorem ft_X6_0 : FT 6 0 (.array .int) true := ⟨RX6, TX6, 2, tyX6, rfl, tyX6_ok, nmX6, by decide +kernel, rfl⟩
theorem ft_X6_1 : FT 6 1 (.array .int) true := ⟨RX6, TX6, 2, tyX6, rfl, tyX6_ok, nmX6, by decide +kernel, rfl⟩
set_option maxRecDepth 20000 in
theorem uw_X7 : ∀ w ∈ u_ws RX7 TX7 3, w ∈ TW := inTWs _ [234, 236, 238] (by decide +kernel) (by decide +kernel)
theorem ft_X7_0 : FT 7 0 (.array .int) true := ⟨RX7, TX7, 3, tyX7, rfl, tyX7_ok, nmX7, by decide +kernel, rfl⟩
theorem ft_X7_1 : FT 7 1 (.array .int) true := ⟨RX7, TX7, 3, tyX7, rfl, tyX7_ok, nmX7, by decide +kernel, rfl⟩
theorem ft_X7_2 : FT 7 2 .int false := ⟨RX7, TX7, 3, tyX7, rfl, tyX7_ok, nmX7, by decide +kernel, rfl⟩
set_option maxRecDepth 20000 in
theorem uw_X8 : ∀ w ∈ u_ws RX8 TX8 2, w ∈ TW := inTWs _ [211, 213] (by decide +kernel) (by decide +kernel)
theorem ft_X8_0 : FT 8 0 (.array .byte) true := ⟨RX8, TX8, 2, tyX8, rfl, tyX8_ok, nmX8, by decide +kernel, rfl⟩
theorem ft_X8_1 : FT 8 1 .int false := ⟨RX8, TX8, 2, tyX8, rfl, tyX8_ok, nmX8, by decide +kernel, rfl⟩
set_option maxRecDepth 20000 in
theorem uw_X9 : ∀ w ∈ u_ws RX9 TX9 2, w ∈ TW := inTWs _ [716, 718] (by decide +kernel) (by decide +kernel)
theorem ft_X9_0 : FT 9 0 (.array .int) true := ⟨RX9, TX9, 2, tyX9, rfl, tyX9_ok, nmX9, by decide +kernel, rfl⟩
theorem ft_X9_1 : FT 9 1 .int true := ⟨RX9, TX9, 2, tyX9, rfl, tyX9_ok, nmX9, by decide +kernel, rfl⟩
set_option maxRecDepth 20000 in
theorem uw_X10 : ∀ w ∈ u_ws RX10 TX10 9, w ∈ TW := inTWs _ [328, 330, 332, 334, 336, 338, 340, 342, 344] (by decide +kernel) (by decide +kernel)
theorem ft_X10_0 : FT 10 0 (.object "ArmsBook$People") true := ⟨RX10, TX10, 9, tyX10, rfl, tyX10_ok, nmX10, by decide +kernel, rfl⟩
theorem ft_X10_1 : FT 10 1 (.object "ArmsBook$Grants") true := ⟨RX10, TX10, 9, tyX10, rfl, tyX10_ok, nmX10, by decide +kernel, rfl⟩
theorem ft_X10_2 : FT 10 2 (.object "ArmsBook$Proof") true := ⟨RX10, TX10, 9, tyX10, rfl, tyX10_ok, nmX10, by decide +kernel, rfl⟩
theorem ft_X10_3 : FT 10 3 (.object "ArmsBook$Quarters") true := ⟨RX10, TX10, 9, tyX10, rfl, tyX10_ok, nmX10, by decide +kernel, rfl⟩
theorem ft_X10_4 : FT 10 4 (.object "ArmsBook$Tape") true := ⟨RX10, TX10, 9, tyX10, rfl, tyX10_ok, nmX10, by decide +kernel, rfl⟩
theorem ft_X10_5 : FT 10 5 (.object "ArmsBook$Parser") true := ⟨RX10, TX10, 9, tyX10, rfl, tyX10_ok, nmX10, by decide +kernel, rfl⟩
theorem ft_X10_6 : FT 10 6 (.object "ArmsBook$Office") true := ⟨RX10, TX10, 9, tyX10, rfl, tyX10_ok, nmX10, by decide +kernel, rfl⟩
theorem ft_X10_7 : FT 10 7 (.object "ArmsBook$Copies") true := ⟨RX10, TX10, 9, tyX10, rfl, tyX10_ok, nmX10, by decide +kernel, rfl⟩
theorem ft_X10_8 : FT 10 8 .int false := ⟨RX10, TX10, 9, tyX10, rfl, tyX10_ok, nmX10, by decide +kernel, rfl⟩
set_option maxRecDepth 20000 in
theorem uw_X11 : ∀ w ∈ u_ws RX11 TX11 43, w ∈ TW := inTWs _ [1085, 1087, 1089, 1091, 1093, 1095, 1097, 1099, 1101, 1103, 1105, 1107, 1109, 1111, 1113, 1115, 1117, 1119, 1121, 1123, 1125, 1127, 1129, 1131, 1133, 1135, 1137, 1139, 1141, 1143, 1145, 1147, 1149, 1151, 1153, 1155, 1157, 1159, 1161, 1163, 1165, 1167, 1169] (by decide +kernel) (by decide +kernel)
theorem ft_X11_0 : FT 11 0 (.array (.object "java/lang/String")) true := ⟨RX11, TX11, 43, tyX11, rfl, tyX11_ok, nmX11, by decide +kernel, rfl⟩
theorem ft_X11_1 : FT 11 1 .int false := ⟨RX11, TX11, 43, tyX11, rfl, tyX11_ok, nmX11, by decide +kernel, rfl⟩
theorem ft_X11_2 : FT 11 2 .int false := ⟨RX11, TX11, 43, tyX11, rfl, tyX11_ok, nmX11, by decide +kernel, rfl⟩
theorem ft_X11_3 : FT 11 3 .int false := ⟨RX11, TX11, 43, tyX11, rfl, tyX11_ok, nmX11, by decide +kernel, rfl⟩
theorem ft_X11_4 : FT 11 4 .int false := ⟨RX11, TX11, 43, tyX11, rfl, tyX11_ok, nmX11, by decide +kernel, rfl⟩
theorem ft_X11_5 : FT 11 5 .int false := ⟨RX11, TX11, 43, tyX11, rfl, tyX11_ok, nmX11, by decide +kernel, rfl⟩
theorem ft_X11_6 : FT 11 6 .int false := ⟨RX11, TX11, 43, tyX11, rfl, tyX11_ok, nmX11, by decide +kernel, rfl⟩
theorem ft_X11_7 : FT 11 7 .int false := ⟨RX11, TX11, 43, tyX11, rfl, tyX11_ok, nmX11, by decide +kernel, rfl⟩
theorem ft_X11_8 : FT 11 8 (.array .boolean) true := ⟨RX11, TX11, 43, tyX11, rfl, tyX11_ok, nmX11, by decide +kernel, rfl⟩
theorem ft_X11_9 : FT 11 9 (.array .int) true := ⟨RX11, TX11, 43, tyX11, rfl, tyX11_ok, nmX11, by decide +kernel, rfl⟩
theorem ft_X11_10 : FT 11 10 (.array .int) true := ⟨RX11, TX11, 43, tyX11, rfl, tyX11_ok, nmX11, by decide +kernel, rfl⟩
theorem ft_X11_11 : FT 11 11 (.array .int) true := ⟨RX11, TX11, 43, tyX11, rfl, tyX11_ok, nmX11, by decide +kernel, rfl⟩
theorem ft_X11_12 : FT 11 12 (.array .int) true := ⟨RX11, TX11, 43, tyX11, rfl, tyX11_ok, nmX11, by decide +kernel, rfl⟩
theorem ft_X11_13 : FT 11 13 (.array .int) true := ⟨RX11, TX11, 43, tyX11, rfl, tyX11_ok, nmX11, by decide +kernel, rfl⟩
theorem ft_X11_14 : FT 11 14 (.array .int) true := ⟨RX11, TX11, 43, tyX11, rfl, tyX11_ok, nmX11, by decide +kernel, rfl⟩
theorem ft_X11_15 : FT 11 15 (.array .int) true := ⟨RX11, TX11, 43, tyX11, rfl, tyX11_ok, nmX11, by decide +kernel, rfl⟩
theorem ft_X11_16 : FT 11 16 (.array .int) true := ⟨RX11, TX11, 43, tyX11, rfl, tyX11_ok, nmX11, by decide +kernel, rfl⟩
theorem ft_X11_17 : FT 11 17 (.array .int) true := ⟨RX11, TX11, 43, tyX11, rfl, tyX11_ok, nmX11, by decide +kernel, rfl⟩
theorem ft_X11_18 : FT 11 18 (.array .int) true := ⟨RX11, TX11, 43, tyX11, rfl, tyX11_ok, nmX11, by decide +kernel, rfl⟩
theorem ft_X11_19 : FT 11 19 (.array .int) true := ⟨RX11, TX11, 43, tyX11, rfl, tyX11_ok, nmX11, by decide +kernel, rfl⟩
theorem ft_X11_20 : FT 11 20 (.array .int) true := ⟨RX11, TX11, 43, tyX11, rfl, tyX11_ok, nmX11, by decide +kernel, rfl⟩
theorem ft_X11_21 : FT 11 21 (.array .int) true := ⟨RX11, TX11, 43, tyX11, rfl, tyX11_ok, nmX11, by decide +kernel, rfl⟩
theorem ft_X11_22 : FT 11 22 (.array .int) true := ⟨RX11, TX11, 43, tyX11, rfl, tyX11_ok, nmX11, by decide +kernel, rfl⟩
theorem ft_X11_23 : FT 11 23 (.array .int) true := ⟨RX11, TX11, 43, tyX11, rfl, tyX11_ok, nmX11, by decide +kernel, rfl⟩
theorem ft_X11_24 : FT 11 24 (.array .int) true := ⟨RX11, TX11, 43, tyX11, rfl, tyX11_ok, nmX11, by decide +kernel, rfl⟩
theorem ft_X11_25 : FT 11 25 (.array .int) true := ⟨RX11, TX11, 43, tyX11, rfl, tyX11_ok, nmX11, by decide +kernel, rfl⟩
theorem ft_X11_26 : FT 11 26 (.array .int) true := ⟨RX11, TX11, 43, tyX11, rfl, tyX11_ok, nmX11, by decide +kernel, rfl⟩
theorem ft_X11_27 : FT 11 27 .int false := ⟨RX11, TX11, 43, tyX11, rfl, tyX11_ok, nmX11, by decide +kernel, rfl⟩
theorem ft_X11_28 : FT 11 28 .int false := ⟨RX11, TX11, 43, tyX11, rfl, tyX11_ok, nmX11, by decide +kernel, rfl⟩
theorem ft_X11_29 : FT 11 29 .int false := ⟨RX11, TX11, 43, tyX11, rfl, tyX11_ok, nmX11, by decide +kernel, rfl⟩
theorem ft_X11_30 : FT 11 30 .int false := ⟨RX11, TX11, 43, tyX11, rfl, tyX11_ok, nmX11, by decide +kernel, rfl⟩
theorem ft_X11_31 : FT 11 31 .int false := ⟨RX11, TX11, 43, tyX11, rfl, tyX11_ok, nmX11, by decide +kernel, rfl⟩
theorem ft_X11_32 : FT 11 32 .int false := ⟨RX11, TX11, 43, tyX11, rfl, tyX11_ok, nmX11, by decide +kernel, rfl⟩
theorem ft_X11_33 : FT 11 33 .int false := ⟨RX11, TX11, 43, tyX11, rfl, tyX11_ok, nmX11, by decide +kernel, rfl⟩
theorem ft_X11_34 : FT 11 34 .int false := ⟨RX11, TX11, 43, tyX11, rfl, tyX11_ok, nmX11, by decide +kernel, rfl⟩
theorem ft_X11_35 : FT 11 35 .int false := ⟨RX11, TX11, 43, tyX11, rfl, tyX11_ok, nmX11, by decide +kernel, rfl⟩
theorem ft_X11_36 : FT 11 36 .int false := ⟨RX11, TX11, 43, tyX11, rfl, tyX11_ok, nmX11, by decide +kernel, rfl⟩
theorem ft_X11_37 : FT 11 37 (.array .boolean) true := ⟨RX11, TX11, 43, tyX11, rfl, tyX11_ok, nmX11, by decide +kernel, rfl⟩
theorem ft_X11_38 : FT 11 38 (.array .int) true := ⟨RX11, TX11, 43, tyX11, rfl, tyX11_ok, nmX11, by decide +kernel, rfl⟩
theorem ft_X11_39 : FT 11 39 (.array .int) true := ⟨RX11, TX11, 43, tyX11, rfl, tyX11_ok, nmX11, by decide +kernel, rfl⟩
theorem ft_X11_40 : FT 11 40 (.array .int) true := ⟨RX11, TX11, 43, tyX11, rfl, tyX11_ok, nmX11, by decide +kernel, rfl⟩
theorem ft_X11_41 : FT 11 41 (.array .boolean) true := ⟨RX11, TX11, 43, tyX11, rfl, tyX11_ok, nmX11, by decide +kernel, rfl⟩
theorem ft_X11_42 : FT 11 42 (.array .boolean) true := ⟨RX11, TX11, 43, tyX11, rfl, tyX11_ok, nmX11, by decide +kernel, rfl⟩
theorem ml_L_59 : Cond.methodLink RL 59 yX10_init ∈ TW := inTW 95 (by decide +kernel) rfl
theorem mi_X10_init : Cond.instanceMethod yX10_init ∈ TW := inTW 96 (by decide +kernel) rfl
theorem mn_X10_9 : Cond.methodLinkNest RX10 9 yX4_init "ArmsBook" ∈ EWL := inEW 35 (by decide +kernel) rfl
theorem mi_X4_init : Cond.instanceMethod yX4_init ∈ TW := inTW 104 (by decide +kernel) rfl
theorem fg_X4_11 : FG RX4 11 4 0 := ⟨RX4, TX4, 9, rfl, uw_X4, by decide, inTW 107 (by decide +kernel) rfl, rfl⟩
theorem fg_X4_15 : FG RX4 15 4 1 := ⟨RX4, TX4, 9, rfl, uw_X4, by decide, inTW 108 (by decide +kernel) rfl, rfl⟩
theorem fg_X4_19 : FG RX4 19 4 2 := ⟨RX4, TX4, 9, rfl, uw_X4, by decide, inTW 109 (by decide +kernel) rfl, rfl⟩
theorem fg_X4_22 : FG RX4 22 4 3 := ⟨RX4, TX4, 9, rfl, uw_X4, by decide, inTW 110 (by decide +kernel) rfl, rfl⟩
theorem fg_X4_25 : FG RX4 25 4 4 := ⟨RX4, TX4, 9, rfl, uw_X4, by decide, inTW 111 (by decide +kernel) rfl, rfl⟩
theorem fg_X4_28 : FG RX4 28 4 5 := ⟨RX4, TX4, 9, rfl, uw_X4, by decide, inTW 112 (by decide +kernel) rfl, rfl⟩
theorem fg_X4_31 : FG RX4 31 4 6 := ⟨RX4, TX4, 9, rfl, uw_X4, by decide, inTW 113 (by decide +kernel) rfl, rfl⟩
theorem fg_X4_34 : FG RX4 34 4 7 := ⟨RX4, TX4, 9, rfl, uw_X4, by decide, inTW 114 (by decide +kernel) rfl, rfl⟩
theorem fg_X4_37 : FG RX4 37 4 8 := ⟨RX4, TX4, 9, rfl, uw_X4, by decide, inTW 115 (by decide +kernel) rfl, rfl⟩
theorem fn_X10_245 : FN RX10 245 4 8 := ⟨RX4, TX4, 9, "ArmsBook", rfl, uw_X4, by decide, inEW 48 (by decide +kernel) rfl, rfl⟩
theorem mn_X10_18 : Cond.methodLinkNest RX10 18 yX1_init "ArmsBook" ∈ EWL := inEW 72 (by decide +kernel) rfl
theorem mi_X1_init : Cond.instanceMethod yX1_init ∈ TW := inTW 141 (by decide +kernel) rfl
theorem fg_X1_11 : FG RX1 11 1 0 := ⟨RX1, TX1, 4, rfl, uw_X1, by decide, inTW 144 (by decide +kernel) rfl, rfl⟩
theorem fg_X1_15 : FG RX1 15 1 1 := ⟨RX1, TX1, 4, rfl, uw_X1, by decide, inTW 145 (by decide +kernel) rfl, rfl⟩
theorem fg_X1_18 : FG RX1 18 1 2 := ⟨RX1, TX1, 4, rfl, uw_X1, by decide, inTW 146 (by decide +kernel) rfl, rfl⟩
theorem fg_X1_21 : FG RX1 21 1 3 := ⟨RX1, TX1, 4, rfl, uw_X1, by decide, inTW 147 (by decide +kernel) rfl, rfl⟩
theorem fn_X10_272 : FN RX10 272 1 3 := ⟨RX1, TX1, 4, "ArmsBook", rfl, uw_X1, by decide, inEW 80 (by decide +kernel) rfl, rfl⟩
theorem mn_X10_25 : Cond.methodLinkNest RX10 25 yX5_init "ArmsBook" ∈ EWL := inEW 92 (by decide +kernel) rfl
theorem mi_X5_init : Cond.instanceMethod yX5_init ∈ TW := inTW 161 (by decide +kernel) rfl
theorem fg_X5_11 : FG RX5 11 5 0 := ⟨RX5, TX5, 6, rfl, uw_X5, by decide, inTW 164 (by decide +kernel) rfl, rfl⟩
theorem fg_X5_17 : FG RX5 17 5 1 := ⟨RX5, TX5, 6, rfl, uw_X5, by decide, inTW 165 (by decide +kernel) rfl, rfl⟩
theorem fn_X10_172 : FN RX10 172 5 1 := ⟨RX5, TX5, 6, "ArmsBook", rfl, uw_X5, by decide, inEW 98 (by decide +kernel) rfl, rfl⟩
theorem fg_X5_21 : FG RX5 21 5 2 := ⟨RX5, TX5, 6, rfl, uw_X5, by decide, inTW 167 (by decide +kernel) rfl, rfl⟩
theorem fn_X10_175 : FN RX10 175 5 2 := ⟨RX5, TX5, 6, "ArmsBook", rfl, uw_X5, by decide, inEW 100 (by decide +kernel) rfl, rfl⟩
theorem fg_X5_24 : FG RX5 24 5 3 := ⟨RX5, TX5, 6, rfl, uw_X5, by decide, inTW 169 (by decide +kernel) rfl, rfl⟩
theorem fn_X10_178 : FN RX10 178 5 3 := ⟨RX5, TX5, 6, "ArmsBook", rfl, uw_X5, by decide, inEW 102 (by decide +kernel) rfl, rfl⟩
theorem fg_X5_27 : FG RX5 27 5 4 := ⟨RX5, TX5, 6, rfl, uw_X5, by decide, inTW 171 (by decide +kernel) rfl, rfl⟩
theorem fn_X10_181 : FN RX10 181 5 4 := ⟨RX5, TX5, 6, "ArmsBook", rfl, uw_X5, by decide, inEW 104 (by decide +kernel) rfl, rfl⟩
theorem fg_X5_30 : FG RX5 30 5 5 := ⟨RX5, TX5, 6, rfl, uw_X5, by decide, inTW 173 (by decide +kernel) rfl, rfl⟩
theorem fn_X10_285 : FN RX10 285 5 5 := ⟨RX5, TX5, 6, "ArmsBook", rfl, uw_X5, by decide, inEW 106 (by decide +kernel) rfl, rfl⟩
theorem mn_X10_32 : Cond.methodLinkNest RX10 32 yX6_init "ArmsBook" ∈ EWL := inEW 122 (by decide +kernel) rfl
theorem mi_X6_init : Cond.instanceMethod yX6_init ∈ TW := inTW 191 (by decide +kernel) rfl
theorem fg_X6_13 : FG RX6 13 6 0 := ⟨RX6, TX6, 2, rfl, uw_X6, by decide, inTW 194 (by decide +kernel) rfl, rfl⟩
theorem fg_X6_17 : FG RX6 17 6 1 := ⟨RX6, TX6, 2, rfl, uw_X6, by decide, inTW 195 (by decide +kernel) rfl, rfl⟩
theorem mn_X10_39 : Cond.methodLinkNest RX10 39 yX8_init "ArmsBook" ∈ EWL := inEW 135 (by decide +kernel) rfl
theorem mi_X8_init : Cond.instanceMethod yX8_init ∈ TW := inTW 204 (by decide +kernel) rfl
theorem fg_X8_9 : FG RX8 9 8 0 := ⟨RX8, TX8, 2, rfl, uw_X8, by decide, inTW 207 (by decide +kernel) rfl, rfl⟩
theorem fn_X10_116 : FN RX10 116 8 0 := ⟨RX8, TX8, 2, "ArmsBook", rfl, uw_X8, by decide, inEW 140 (by decide +kernel) rfl, rfl⟩
theorem fg_X8_13 : FG RX8 13 8 1 := ⟨RX8, TX8, 2, rfl, uw_X8, by decide, inTW 209 (by decide +kernel) rfl, rfl⟩
theorem fn_X10_101 : FN RX10 101 8 1 := ⟨RX8, TX8, 2, "ArmsBook", rfl, uw_X8, by decide, inEW 142 (by decide +kernel) rfl, rfl⟩
theorem mn_X10_46 : Cond.methodLinkNest RX10 46 yX3_init "ArmsBook" ∈ EWL := inEW 151 (by decide +kernel) rfl
theorem mi_X3_init : Cond.instanceMethod yX3_init ∈ TW := inTW 220 (by decide +kernel) rfl
theorem mn_X3_11 : Cond.methodLinkNest RX3 11 yX7_init "ArmsBook" ∈ EWL := inEW 157 (by decide +kernel) rfl
theorem mi_X7_init : Cond.instanceMethod yX7_init ∈ TW := inTW 226 (by decide +kernel) rfl
theorem fg_X7_11 : FG RX7 11 7 0 := ⟨RX7, TX7, 3, rfl, uw_X7, by decide, inTW 229 (by decide +kernel) rfl, rfl⟩
theorem fn_X3_44 : FN RX3 44 7 0 := ⟨RX7, TX7, 3, "ArmsBook", rfl, uw_X7, by decide, inEW 162 (by decide +kernel) rfl, rfl⟩
theorem fg_X7_15 : FG RX7 15 7 1 := ⟨RX7, TX7, 3, rfl, uw_X7, by decide, inTW 231 (by decide +kernel) rfl, rfl⟩
theorem fn_X3_63 : FN RX3 63 7 1 := ⟨RX7, TX7, 3, "ArmsBook", rfl, uw_X7, by decide, inEW 164 (by decide +kernel) rfl, rfl⟩
theorem fg_X7_18 : FG RX7 18 7 2 := ⟨RX7, TX7, 3, rfl, uw_X7, by decide, inTW 233 (by decide +kernel) rfl, rfl⟩
theorem fg_X3_12 : FG RX3 12 3 0 := ⟨RX3, TX3, 7, rfl, uw_X3, by decide, inTW 241 (by decide +kernel) rfl, rfl⟩
theorem fg_X3_20 : FG RX3 20 3 1 := ⟨RX3, TX3, 7, rfl, uw_X3, by decide, inTW 242 (by decide +kernel) rfl, rfl⟩
theorem fg_X3_24 : FG RX3 24 3 2 := ⟨RX3, TX3, 7, rfl, uw_X3, by decide, inTW 243 (by decide +kernel) rfl, rfl⟩
theorem fg_X3_28 : FG RX3 28 3 3 := ⟨RX3, TX3, 7, rfl, uw_X3, by decide, inTW 244 (by decide +kernel) rfl, rfl⟩
theorem fg_X3_31 : FG RX3 31 3 4 := ⟨RX3, TX3, 7, rfl, uw_X3, by decide, inTW 245 (by decide +kernel) rfl, rfl⟩
theorem fg_X3_34 : FG RX3 34 3 5 := ⟨RX3, TX3, 7, rfl, uw_X3, by decide, inTW 246 (by decide +kernel) rfl, rfl⟩
theorem fn_X10_124 : FN RX10 124 3 5 := ⟨RX3, TX3, 7, "ArmsBook", rfl, uw_X3, by decide, inEW 179 (by decide +kernel) rfl, rfl⟩
theorem fg_X3_37 : FG RX3 37 3 6 := ⟨RX3, TX3, 7, rfl, uw_X3, by decide, inTW 248 (by decide +kernel) rfl, rfl⟩
theorem fn_X10_127 : FN RX10 127 3 6 := ⟨RX3, TX3, 7, "ArmsBook", rfl, uw_X3, by decide, inEW 181 (by decide +kernel) rfl, rfl⟩
theorem mn_X10_53 : Cond.methodLinkNest RX10 53 yX2_init "ArmsBook" ∈ EWL := inEW 199 (by decide +kernel) rfl
theorem mi_X2_init : Cond.instanceMethod yX2_init ∈ TW := inTW 268 (by decide +kernel) rfl
theorem fg_X2_13 : FG RX2 13 2 0 := ⟨RX2, TX2, 8, rfl, uw_X2, by decide, inTW 273 (by decide +kernel) rfl, rfl⟩
theorem fg_X2_17 : FG RX2 17 2 1 := ⟨RX2, TX2, 8, rfl, uw_X2, by decide, inTW 274 (by decide +kernel) rfl, rfl⟩
theorem fg_X2_21 : FG RX2 21 2 2 := ⟨RX2, TX2, 8, rfl, uw_X2, by decide, inTW 275 (by decide +kernel) rfl, rfl⟩
theorem fg_X2_24 : FG RX2 24 2 3 := ⟨RX2, TX2, 8, rfl, uw_X2, by decide, inTW 276 (by decide +kernel) rfl, rfl⟩
theorem fn_X10_273 : FN RX10 273 2 3 := ⟨RX2, TX2, 8, "ArmsBook", rfl, uw_X2, by decide, inEW 209 (by decide +kernel) rfl, rfl⟩
theorem fg_X2_28 : FG RX2 28 2 4 := ⟨RX2, TX2, 8, rfl, uw_X2, by decide, inTW 278 (by decide +kernel) rfl, rfl⟩
theorem fg_X2_31 : FG RX2 31 2 5 := ⟨RX2, TX2, 8, rfl, uw_X2, by decide, inTW 279 (by decide +kernel) rfl, rfl⟩
theorem fn_X10_229 : FN RX10 229 2 5 := ⟨RX2, TX2, 8, "ArmsBook", rfl, uw_X2, by decide, inEW 212 (by decide +kernel) rfl, rfl⟩
theorem fg_X2_35 : FG RX2 35 2 6 := ⟨RX2, TX2, 8, rfl, uw_X2, by decide, inTW 281 (by decide +kernel) rfl, rfl⟩
theorem fn_X10_233 : FN RX10 233 2 6 := ⟨RX2, TX2, 8, "ArmsBook", rfl, uw_X2, by decide, inEW 214 (by decide +kernel) rfl, rfl⟩
theorem fg_X2_38 : FG RX2 38 2 7 := ⟨RX2, TX2, 8, rfl, uw_X2, by decide, inTW 283 (by decide +kernel) rfl, rfl⟩
theorem fn_X10_236 : FN RX10 236 2 7 := ⟨RX2, TX2, 8, "ArmsBook", rfl, uw_X2, by decide, inEW 216 (by decide +kernel) rfl, rfl⟩
theorem mn_X10_60 : Cond.methodLinkNest RX10 60 yX0_init "ArmsBook" ∈ EWL := inEW 236 (by decide +kernel) rfl
theorem mi_X0_init : Cond.instanceMethod yX0_init ∈ TW := inTW 305 (by decide +kernel) rfl
theorem fg_X0_11 : FG RX0 11 0 0 := ⟨RX0, TX0, 3, rfl, uw_X0, by decide, inTW 308 (by decide +kernel) rfl, rfl⟩
theorem fg_X0_15 : FG RX0 15 0 1 := ⟨RX0, TX0, 3, rfl, uw_X0, by decide, inTW 309 (by decide +kernel) rfl, rfl⟩
theorem fg_X0_18 : FG RX0 18 0 2 := ⟨RX0, TX0, 3, rfl, uw_X0, by decide, inTW 310 (by decide +kernel) rfl, rfl⟩
theorem fn_X10_274 : FN RX10 274 0 2 := ⟨RX0, TX0, 3, "ArmsBook", rfl, uw_X0, by decide, inEW 243 (by decide +kernel) rfl, rfl⟩
theorem fg_X10_10 : FG RX10 10 10 0 := ⟨RX10, TX10, 9, rfl, uw_X10, by decide, inTW 319 (by decide +kernel) rfl, rfl⟩
theorem fg_X10_19 : FG RX10 19 10 1 := ⟨RX10, TX10, 9, rfl, uw_X10, by decide, inTW 320 (by decide +kernel) rfl, rfl⟩
theorem fg_X10_26 : FG RX10 26 10 2 := ⟨RX10, TX10, 9, rfl, uw_X10, by decide, inTW 321 (by decide +kernel) rfl, rfl⟩
theorem fg_X10_33 : FG RX10 33 10 3 := ⟨RX10, TX10, 9, rfl, uw_X10, by decide, inTW 322 (by decide +kernel) rfl, rfl⟩
theorem fg_X10_40 : FG RX10 40 10 4 := ⟨RX10, TX10, 9, rfl, uw_X10, by decide, inTW 323 (by decide +kernel) rfl, rfl⟩
theorem fg_X10_47 : FG RX10 47 10 5 := ⟨RX10, TX10, 9, rfl, uw_X10, by decide, inTW 324 (by decide +kernel) rfl, rfl⟩
theorem fg_X10_54 : FG RX10 54 10 6 := ⟨RX10, TX10, 9, rfl, uw_X10, by decide, inTW 325 (by decide +kernel) rfl, rfl⟩
theorem fg_X10_61 : FG RX10 61 10 7 := ⟨RX10, TX10, 9, rfl, uw_X10, by decide, inTW 326 (by decide +kernel) rfl, rfl⟩
theorem fg_X10_65 : FG RX10 65 10 8 := ⟨RX10, TX10, 9, rfl, uw_X10, by decide, inTW 327 (by decide +kernel) rfl, rfl⟩
theorem ml_L_63 : Cond.methodLink RL 63 yX10_person ∈ TW := inTW 347 (by decide +kernel) rfl
theorem mi_X10_person : Cond.instanceMethod yX10_person ∈ TW := inTW 348 (by decide +kernel) rfl
theorem mv_X10_person : MV yX10_person := ⟨mi_X10_person, inTW 349 (by decide +kernel) rfl⟩
theorem ml_X10_69 : Cond.methodLink RX10 69 yX4_add ∈ TW := inTW 351 (by decide +kernel) rfl
theorem mi_X4_add : Cond.instanceMethod yX4_add ∈ TW := inTW 352 (by decide +kernel) rfl
theorem mv_X4_add : MV yX4_add := ⟨mi_X4_add, inTW 353 (by decide +kernel) rfl⟩
theorem mn_X4_41 : Cond.methodLinkNest RX4 41 yX10_isYear "ArmsBook" ∈ EWL := inEW 287 (by decide +kernel) rfl
theorem ms_X10_isYear : Cond.static yX10_isYear ∈ TW := inTW 356 (by decide +kernel) rfl
theorem ml_X4_45 : Cond.methodLink RX4 45 yX4_canDie ∈ TW := inTW 358 (by decide +kernel) rfl
theorem ms_X4_canDie : Cond.static yX4_canDie ∈ TW := inTW 359 (by decide +kernel) rfl
theorem ml_L_82 : Cond.methodLink RL 82 yX10_feed ∈ TW := inTW 361 (by decide +kernel) rfl
theorem mi_X10_feed : Cond.instanceMethod yX10_feed ∈ TW := inTW 362 (by decide +kernel) rfl
theorem mv_X10_feed : MV yX10_feed := ⟨mi_X10_feed, inTW 363 (by decide +kernel) rfl⟩
theorem ml_X10_94 : Cond.methodLink RX10 94 yX8_hasRoom ∈ TW := inTW 365 (by decide +kernel) rfl
theorem mi_X8_hasRoom : Cond.instanceMethod yX8_hasRoom ∈ TW := inTW 366 (by decide +kernel) rfl
theorem mv_X8_hasRoom : MV yX8_hasRoom := ⟨mi_X8_hasRoom, inTW 367 (by decide +kernel) rfl⟩
theorem ml_X10_98 : Cond.methodLink RX10 98 yX8_put ∈ TW := inTW 369 (by decide +kernel) rfl
theorem mi_X8_put : Cond.instanceMethod yX8_put ∈ TW := inTW 370 (by decide +kernel) rfl
theorem mv_X8_put : MV yX8_put := ⟨mi_X8_put, inTW 371 (by decide +kernel) rfl⟩
theorem ml_L_91 : Cond.methodLink RL 91 yX10_fault ∈ TW := inTW 373 (by decide +kernel) rfl
theorem mi_X10_fault : Cond.instanceMethod yX10_fault ∈ TW := inTW 374 (by decide +kernel) rfl
theorem mv_X10_fault : MV yX10_fault := ⟨mi_X10_fault, inTW 375 (by decide +kernel) rfl⟩
theorem ml_L_122 : Cond.methodLink RL 122 yX10_copy ∈ TW := inTW 377 (by decide +kernel) rfl
theorem mi_X10_copy : Cond.instanceMethod yX10_copy ∈ TW := inTW 378 (by decide +kernel) rfl
theorem mv_X10_copy : MV yX10_copy := ⟨mi_X10_copy, inTW 379 (by decide +kernel) rfl⟩
theorem ml_X10_248 : Cond.methodLink RX10 248 yX0_add ∈ TW := inTW 381 (by decide +kernel) rfl
theorem mi_X0_add : Cond.instanceMethod yX0_add ∈ TW := inTW 382 (by decide +kernel) rfl
theorem mv_X0_add : MV yX0_add := ⟨mi_X0_add, inTW 383 (by decide +kernel) rfl⟩
theorem mn_X0_22 : Cond.methodLinkNest RX0 22 yX10_isYear "ArmsBook" ∈ EWL := inEW 317 (by decide +kernel) rfl
theorem ml_L_68 : Cond.methodLink RL 68 yL_parent ∈ TW := inTW 386 (by decide +kernel) rfl
theorem ms_L_parent : Cond.static yL_parent ∈ TW := inTW 387 (by decide +kernel) rfl
theorem ml_L_7 : Cond.methodLink RL 7 yX10_parent ∈ TW := inTW 390 (by decide +kernel) rfl
theorem mi_X10_parent : Cond.instanceMethod yX10_parent ∈ TW := inTW 391 (by decide +kernel) rfl
theorem mv_X10_parent : MV yX10_parent := ⟨mi_X10_parent, inTW 392 (by decide +kernel) rfl⟩
theorem ml_X10_73 : Cond.methodLink RX10 73 yX10_requirePerson ∈ TW := inTW 394 (by decide +kernel) rfl
theorem mi_X10_requirePerson : Cond.instanceMethod yX10_requirePerson ∈ TW := inTW 396 (by decide +kernel) rfl
theorem mv_X10_requirePerson : MV yX10_requirePerson := ⟨mi_X10_requirePerson, inTW 0 (by decide +kernel) rfl⟩
theorem ml_X10_277 : Cond.methodLink RX10 277 yX4_has ∈ TW := inTW 398 (by decide +kernel) rfl
theorem mi_X4_has : Cond.instanceMethod yX4_has ∈ TW := inTW 399 (by decide +kernel) rfl
theorem mv_X4_has : MV yX4_has := ⟨mi_X4_has, inTW 400 (by decide +kernel) rfl⟩
theorem ml_X10_77 : Cond.methodLink RX10 77 yX4_tellFather ∈ TW := inTW 468 (by decide +kernel) rfl
theorem mi_X4_tellFather : Cond.instanceMethod yX4_tellFather ∈ TW := inTW 469 (by decide +kernel) rfl
theorem mv_X4_tellFather : MV yX4_tellFather := ⟨mi_X4_tellFather, inTW 470 (by decide +kernel) rfl⟩
theorem ml_X4_49 : Cond.methodLink RX4 49 yX4_isGrade ∈ TW := inTW 472 (by decide +kernel) rfl
theorem ms_X4_isGrade : Cond.static yX4_isGrade ∈ TW := inTW 473 (by decide +kernel) rfl
theorem ml_X4_52 : Cond.methodLink RX4 52 yX4_canBeFather ∈ TW := inTW 475 (by decide +kernel) rfl
theorem mi_X4_canBeFather : Cond.instanceMethod yX4_canBeFather ∈ TW := inTW 477 (by decide +kernel) rfl
theorem mv_X4_canBeFather : MV yX4_canBeFather := ⟨mi_X4_canBeFather, inTW 2 (by decide +kernel) rfl⟩
theorem ml_X4_58 : Cond.methodLink RX4 58 yX4_has ∈ TW := inTW 479 (by decide +kernel) rfl
theorem ml_X10_81 : Cond.methodLink RX10 81 yX4_tellMother ∈ TW := inTW 480 (by decide +kernel) rfl
theorem mi_X4_tellMother : Cond.instanceMethod yX4_tellMother ∈ TW := inTW 481 (by decide +kernel) rfl
theorem mv_X4_tellMother : MV yX4_tellMother := ⟨mi_X4_tellMother, inTW 482 (by decide +kernel) rfl⟩
theorem ml_X4_55 : Cond.methodLink RX4 55 yX4_canBeMother ∈ TW := inTW 484 (by decide +kernel) rfl
theorem mi_X4_canBeMother : Cond.instanceMethod yX4_canBeMother ∈ TW := inTW 486 (by decide +kernel) rfl
theorem mv_X4_canBeMother : MV yX4_canBeMother := ⟨mi_X4_canBeMother, inTW 3 (by decide +kernel) rfl⟩
theorem ml_L_78 : Cond.methodLink RL 78 yL_grant ∈ TW := inTW 489 (by decide +kernel) rfl
theorem ms_L_grant : Cond.static yL_grant ∈ TW := inTW 490 (by decide +kernel) rfl
theorem ml_L_15 : Cond.methodLink RL 15 yX10_grant ∈ TW := inTW 492 (by decide +kernel) rfl
theorem mi_X10_grant : Cond.instanceMethod yX10_grant ∈ TW := inTW 493 (by decide +kernel) rfl
theorem mv_X10_grant : MV yX10_grant := ⟨mi_X10_grant, inTW 494 (by decide +kernel) rfl⟩
theorem ml_X10_91 : Cond.methodLink RX10 91 yX1_add ∈ TW := inTW 496 (by decide +kernel) rfl
theorem mi_X1_add : Cond.instanceMethod yX1_add ∈ TW := inTW 497 (by decide +kernel) rfl
theorem mv_X1_add : MV yX1_add := ⟨mi_X1_add, inTW 498 (by decide +kernel) rfl⟩
theorem mn_X1_25 : Cond.methodLinkNest RX1 25 yX10_isYear "ArmsBook" ∈ EWL := inEW 432 (by decide +kernel) rfl
theorem ml_L_87 : Cond.methodLink RL 87 yL_text ∈ TW := inTW 501 (by decide +kernel) rfl
theorem ms_L_text : Cond.static yL_text ∈ TW := inTW 502 (by decide +kernel) rfl
theorem ml_L_19 : Cond.methodLink RL 19 yX10_text ∈ TW := inTW 505 (by decide +kernel) rfl
theorem mi_X10_text : Cond.instanceMethod yX10_text ∈ TW := inTW 506 (by decide +kernel) rfl
theorem mv_X10_text : MV yX10_text := ⟨mi_X10_text, inTW 507 (by decide +kernel) rfl⟩
theorem ml_X10_104 : Cond.methodLink RX10 104 yX10_isYear ∈ TW := inTW 509 (by decide +kernel) rfl
theorem ml_X10_113 : Cond.methodLink RX10 113 yX2_isFull ∈ TW := inTW 526 (by decide +kernel) rfl
theorem mi_X2_isFull : Cond.instanceMethod yX2_isFull ∈ TW := inTW 527 (by decide +kernel) rfl
theorem mv_X2_isFull : MV yX2_isFull := ⟨mi_X2_isFull, inTW 528 (by decide +kernel) rfl⟩
theorem ml_X10_120 : Cond.methodLink RX10 120 yX3_parse ∈ TW := inTW 530 (by decide +kernel) rfl
theorem mi_X3_parse : Cond.instanceMethod yX3_parse ∈ TW := inTW 531 (by decide +kernel) rfl
theorem mv_X3_parse : MV yX3_parse := ⟨mi_X3_parse, inTW 532 (by decide +kernel) rfl⟩
theorem ml_X3_40 : Cond.methodLink RX3 40 yX7_scan ∈ TW := inTW 534 (by decide +kernel) rfl
theorem mi_X7_scan : Cond.instanceMethod yX7_scan ∈ TW := inTW 535 (by decide +kernel) rfl
theorem mv_X7_scan : MV yX7_scan := ⟨mi_X7_scan, inTW 536 (by decide +kernel) rfl⟩
theorem ml_X7_22 : Cond.methodLink RX7 22 yJ9_min_7cf53 ∈ TW := inTW 538 (by decide +kernel) rfl
theorem ms_J9_min_7cf53 : Cond.static yJ9_min_7cf53 ∈ TW := inTW 539 (by decide +kernel) rfl
theorem ml_X7_28 : Cond.methodLink RX7 28 yX7_scanOne ∈ TW := inTW 541 (by decide +kernel) rfl
theorem mi_X7_scanOne : Cond.instanceMethod yX7_scanOne ∈ TW := inTW 543 (by decide +kernel) rfl
theorem mv_X7_scanOne : MV yX7_scanOne := ⟨mi_X7_scanOne, inTW 4 (by decide +kernel) rfl⟩
theorem ml_X7_36 : Cond.methodLink RX7 36 yX7_isLetter ∈ TW := inTW 545 (by decide +kernel) rfl
theorem ms_X7_isLetter : Cond.static yX7_isLetter ∈ TW := inTW 546 (by decide +kernel) rfl
theorem ml_X7_40 : Cond.methodLink RX7 40 yX7_behindLetters ∈ TW := inTW 548 (by decide +kernel) rfl
theorem ms_X7_behindLetters : Cond.static yX7_behindLetters ∈ TW := inTW 549 (by decide +kernel) rfl
theorem ml_X7_43 : Cond.methodLink RX7 43 yX7_wordToken ∈ TW := inTW 551 (by decide +kernel) rfl
theorem ms_X7_wordToken : Cond.static yX7_wordToken ∈ TW := inTW 552 (by decide +kernel) rfl
theorem ml_X7_60 : Cond.methodLink RX7 60 yX7_spells ∈ TW := inTW 555 (by decide +kernel) rfl
theorem ms_X7_spells : Cond.static yX7_spells ∈ TW := inTW 556 (by decide +kernel) rfl
theorem ml_X7_93 : Cond.methodLink RX7 93 yJ0_length_8abf5 ∈ TW := inTW 558 (by decide +kernel) rfl
theorem mi_J0_length_8abf5 : Cond.instanceMethod yJ0_length_8abf5 ∈ TW := inTW 559 (by decide +kernel) rfl
theorem mv_J0_length_8abf5 : MV yJ0_length_8abf5 := ⟨mi_J0_length_8abf5, inTW 560 (by decide +kernel) rfl⟩
theorem ml_J0_335 : Cond.methodLink RJ0 335 yJ0_coder_7d493 ∈ TW := inTW 562 (by decide +kernel) rfl
theorem mi_J0_coder_7d493 : Cond.instanceMethod yJ0_coder_7d493 ∈ TW := inTW 563 (by decide +kernel) rfl
theorem mv_J0_coder_7d493 : MV yJ0_coder_7d493 := ⟨mi_J0_coder_7d493, inTW 564 (by decide +kernel) rfl⟩
theorem ml_X7_99 : Cond.methodLink RX7 99 yJ0_charAt_5068e ∈ TW := inTW 568 (by decide +kernel) rfl
theorem mi_J0_charAt_5068e : Cond.instanceMethod yJ0_charAt_5068e ∈ TW := inTW 569 (by decide +kernel) rfl
theorem mv_J0_charAt_5068e : MV yJ0_charAt_5068e := ⟨mi_J0_charAt_5068e, inTW 570 (by decide +kernel) rfl⟩
theorem ml_J0_492 : Cond.methodLink RJ0 492 yJ0_isLatin1_aae02 ∈ TW := inTW 572 (by decide +kernel) rfl
theorem mi_J0_isLatin1_aae02 : Cond.instanceMethod yJ0_isLatin1_aae02 ∈ TW := inTW 573 (by decide +kernel) rfl
theorem mv_J0_isLatin1_aae02 : MV yJ0_isLatin1_aae02 := ⟨mi_J0_isLatin1_aae02, inTW 574 (by decide +kernel) rfl⟩
theorem ml_J0_495 : Cond.methodLink RJ0 495 yJ1_charAt_3b067 ∈ TW := inTW 576 (by decide +kernel) rfl
theorem ms_J1_charAt_3b067 : Cond.static yJ1_charAt_3b067 ∈ TW := inTW 577 (by decide +kernel) rfl
theorem ml_J1_9 : Cond.methodLink RJ1 9 yJ0_checkIndex_df160 ∈ TW := inTW 579 (by decide +kernel) rfl
theorem ms_J0_checkIndex_df160 : Cond.static yJ0_checkIndex_df160 ∈ TW := inTW 580 (by decide +kernel) rfl
theorem ml_J0_1059 : Cond.methodLink RJ0 1059 yJ3_checkIndex_8e157 ∈ TW := inTW 584 (by decide +kernel) rfl
theorem ms_J3_checkIndex_8e157 : Cond.static yJ3_checkIndex_8e157 ∈ TW := inTW 585 (by decide +kernel) rfl
theorem ml_J0_498 : Cond.methodLink RJ0 498 yJ2_charAt_3b067 ∈ TW := inTW 587 (by decide +kernel) rfl
theorem ms_J2_charAt_3b067 : Cond.static yJ2_charAt_3b067 ∈ TW := inTW 588 (by decide +kernel) rfl
theorem ml_J2_67 : Cond.methodLink RJ2 67 yJ2_checkIndex_2214a ∈ TW := inTW 590 (by decide +kernel) rfl
theorem ms_J2_checkIndex_2214a : Cond.static yJ2_checkIndex_2214a ∈ TW := inTW 591 (by decide +kernel) rfl
theorem ml_J2_48 : Cond.methodLink RJ2 48 yJ2_length_9d52b ∈ TW := inTW 593 (by decide +kernel) rfl
theorem ms_J2_length_9d52b : Cond.static yJ2_length_9d52b ∈ TW := inTW 594 (by decide +kernel) rfl
theorem ml_J2_414 : Cond.methodLink RJ2 414 yJ0_checkIndex_df160 ∈ TW := inTW 596 (by decide +kernel) rfl
theorem ml_J2_71 : Cond.methodLink RJ2 71 yJ2_getChar_3b067 ∈ TW := inTW 597 (by decide +kernel) rfl
theorem ms_J2_getChar_3b067 : Cond.static yJ2_getChar_3b067 ∈ TW := inTW 598 (by decide +kernel) rfl
theorem ml_X7_74 : Cond.methodLink RX7 74 yX7_nameToken ∈ TW := inTW 611 (by decide +kernel) rfl
theorem ms_X7_nameToken : Cond.static yX7_nameToken ∈ TW := inTW 612 (by decide +kernel) rfl
theorem ml_X7_32 : Cond.methodLink RX7 32 yX7_put ∈ TW := inTW 622 (by decide +kernel) rfl
theorem mi_X7_put : Cond.instanceMethod yX7_put ∈ TW := inTW 624 (by decide +kernel) rfl
theorem mv_X7_put : MV yX7_put := ⟨mi_X7_put, inTW 5 (by decide +kernel) rfl⟩
theorem ml_X7_46 : Cond.methodLink RX7 46 yX7_isDigit ∈ TW := inTW 626 (by decide +kernel) rfl
theorem ms_X7_isDigit : Cond.static yX7_isDigit ∈ TW := inTW 627 (by decide +kernel) rfl
theorem ml_X7_49 : Cond.methodLink RX7 49 yX7_behindDigits ∈ TW := inTW 629 (by decide +kernel) rfl
theorem ms_X7_behindDigits : Cond.static yX7_behindDigits ∈ TW := inTW 630 (by decide +kernel) rfl
theorem ml_X7_52 : Cond.methodLink RX7 52 yX7_numberToken ∈ TW := inTW 632 (by decide +kernel) rfl
theorem ms_X7_numberToken : Cond.static yX7_numberToken ∈ TW := inTW 633 (by decide +kernel) rfl
theorem ml_X7_55 : Cond.methodLink RX7 55 yX7_isSign ∈ TW := inTW 635 (by decide +kernel) rfl
theorem ms_X7_isSign : Cond.static yX7_isSign ∈ TW := inTW 636 (by decide +kernel) rfl
theorem ml_X3_47 : Cond.methodLink RX3 47 yX3_readRule ∈ TW := inTW 638 (by decide +kernel) rfl
theorem mi_X3_readRule : Cond.instanceMethod yX3_readRule ∈ TW := inTW 640 (by decide +kernel) rfl
theorem mv_X3_readRule : MV yX3_readRule := ⟨mi_X3_readRule, inTW 6 (by decide +kernel) rfl⟩
theorem ml_X3_66 : Cond.methodLink RX3 66 yX3_blame ∈ TW := inTW 642 (by decide +kernel) rfl
theorem mi_X3_blame : Cond.instanceMethod yX3_blame ∈ TW := inTW 644 (by decide +kernel) rfl
theorem mv_X3_blame : MV yX3_blame := ⟨mi_X3_blame, inTW 7 (by decide +kernel) rfl⟩
theorem ml_X3_69 : Cond.methodLink RX3 69 yX3_advance ∈ TW := inTW 646 (by decide +kernel) rfl
theorem mi_X3_advance : Cond.instanceMethod yX3_advance ∈ TW := inTW 648 (by decide +kernel) rfl
theorem mv_X3_advance : MV yX3_advance := ⟨mi_X3_advance, inTW 8 (by decide +kernel) rfl⟩
theorem ml_X3_57 : Cond.methodLink RX3 57 yJ9_min_7cf53 ∈ TW := inTW 650 (by decide +kernel) rfl
theorem ml_X3_72 : Cond.methodLink RX3 72 yX3_readExpression ∈ TW := inTW 651 (by decide +kernel) rfl
theorem mi_X3_readExpression : Cond.instanceMethod yX3_readExpression ∈ TW := inTW 653 (by decide +kernel) rfl
theorem mv_X3_readExpression : MV yX3_readExpression := ⟨mi_X3_readExpression, inTW 9 (by decide +kernel) rfl⟩
theorem ml_X3_78 : Cond.methodLink RX3 78 yX3_canBeginExpression ∈ TW := inTW 655 (by decide +kernel) rfl
theorem mi_X3_canBeginExpression : Cond.instanceMethod yX3_canBeginExpression ∈ TW := inTW 657 (by decide +kernel) rfl
theorem mv_X3_canBeginExpression : MV yX3_canBeginExpression := ⟨mi_X3_canBeginExpression, inTW 10 (by decide +kernel) rfl⟩
theorem ml_X3_85 : Cond.methodLink RX3 85 yX7_isNumber ∈ TW := inTW 659 (by decide +kernel) rfl
theorem ms_X7_isNumber : Cond.static yX7_isNumber ∈ TW := inTW 660 (by decide +kernel) rfl
theorem ml_X3_89 : Cond.methodLink RX3 89 yX7_isName ∈ TW := inTW 662 (by decide +kernel) rfl
theorem ms_X7_isName : Cond.static yX7_isName ∈ TW := inTW 663 (by decide +kernel) rfl
theorem ml_X3_82 : Cond.methodLink RX3 82 yX3_readTest ∈ TW := inTW 665 (by decide +kernel) rfl
theorem mi_X3_readTest : Cond.instanceMethod yX3_readTest ∈ TW := inTW 667 (by decide +kernel) rfl
theorem mv_X3_readTest : MV yX3_readTest := ⟨mi_X3_readTest, inTW 11 (by decide +kernel) rfl⟩
theorem ml_X3_92 : Cond.methodLink RX3 92 yX3_readSum ∈ TW := inTW 669 (by decide +kernel) rfl
theorem mi_X3_readSum : Cond.instanceMethod yX3_readSum ∈ TW := inTW 671 (by decide +kernel) rfl
theorem mv_X3_readSum : MV yX3_readSum := ⟨mi_X3_readSum, inTW 12 (by decide +kernel) rfl⟩
theorem ml_X3_95 : Cond.methodLink RX3 95 yX3_readPart ∈ TW := inTW 673 (by decide +kernel) rfl
theorem mi_X3_readPart : Cond.instanceMethod yX3_readPart ∈ TW := inTW 675 (by decide +kernel) rfl
theorem mv_X3_readPart : MV yX3_readPart := ⟨mi_X3_readPart, inTW 13 (by decide +kernel) rfl⟩
theorem ml_X3_75 : Cond.methodLink RX3 75 yX3_emit ∈ TW := inTW 677 (by decide +kernel) rfl
theorem mi_X3_emit : Cond.instanceMethod yX3_emit ∈ TW := inTW 679 (by decide +kernel) rfl
theorem mv_X3_emit : MV yX3_emit := ⟨mi_X3_emit, inTW 14 (by decide +kernel) rfl⟩
theorem ml_X3_98 : Cond.methodLink RX3 98 yX7_isOtherThanName ∈ TW := inTW 681 (by decide +kernel) rfl
theorem ms_X7_isOtherThanName : Cond.static yX7_isOtherThanName ∈ TW := inTW 682 (by decide +kernel) rfl
theorem ml_X10_130 : Cond.methodLink RX10 130 yX3_code ∈ TW := inTW 684 (by decide +kernel) rfl
theorem mi_X3_code : Cond.instanceMethod yX3_code ∈ TW := inTW 685 (by decide +kernel) rfl
theorem mv_X3_code : MV yX3_code := ⟨mi_X3_code, inTW 686 (by decide +kernel) rfl⟩
theorem ml_X3_51 : Cond.methodLink RX3 51 yJ7_copyOf_59c91 ∈ TW := inTW 688 (by decide +kernel) rfl
theorem ms_J7_copyOf_59c91 : Cond.static yJ7_copyOf_59c91 ∈ TW := inTW 689 (by decide +kernel) rfl
theorem ml_J7_304 : Cond.methodLink RJ7 304 yJ9_min_7cf53 ∈ TW := inTW 698 (by decide +kernel) rfl
theorem ml_X10_134 : Cond.methodLink RX10 134 yX2_add ∈ TW := inTW 702 (by decide +kernel) rfl
theorem mi_X2_add : Cond.instanceMethod yX2_add ∈ TW := inTW 703 (by decide +kernel) rfl
theorem mv_X2_add : MV yX2_add := ⟨mi_X2_add, inTW 704 (by decide +kernel) rfl⟩
theorem ml_X2_41 : Cond.methodLink RX2 41 yX2_isFull ∈ TW := inTW 706 (by decide +kernel) rfl
theorem ml_X2_45 : Cond.methodLink RX2 45 yX9_init ∈ TW := inTW 708 (by decide +kernel) rfl
theorem mi_X9_init : Cond.instanceMethod yX9_init ∈ TW := inTW 709 (by decide +kernel) rfl
theorem fg_X9_7 : FG RX9 7 9 0 := ⟨RX9, TX9, 2, rfl, uw_X9, by decide, inTW 712 (by decide +kernel) rfl, rfl⟩
theorem fn_X2_54 : FN RX2 54 9 0 := ⟨RX9, TX9, 2, "ArmsBook", rfl, uw_X9, by decide, inEW 645 (by decide +kernel) rfl, rfl⟩
theorem fg_X9_13 : FG RX9 13 9 1 := ⟨RX9, TX9, 2, rfl, uw_X9, by decide, inTW 714 (by decide +kernel) rfl, rfl⟩
theorem fn_X2_61 : FN RX2 61 9 1 := ⟨RX9, TX9, 2, "ArmsBook", rfl, uw_X9, by decide, inEW 647 (by decide +kernel) rfl, rfl⟩
theorem ml_L_95 : Cond.methodLink RL 95 yL_about ∈ TW := inTW 721 (by decide +kernel) rfl
theorem ms_L_about : Cond.static yL_about ∈ TW := inTW 722 (by decide +kernel) rfl
theorem ml_L_25 : Cond.methodLink RL 25 yX10_about ∈ TW := inTW 724 (by decide +kernel) rfl
theorem mi_X10_about : Cond.instanceMethod yX10_about ∈ TW := inTW 725 (by decide +kernel) rfl
theorem mv_X10_about : MV yX10_about := ⟨mi_X10_about, inTW 726 (by decide +kernel) rfl⟩
theorem ml_X10_137 : Cond.methodLink RX10 137 yX4_bornOf ∈ TW := inTW 728 (by decide +kernel) rfl
theorem mi_X4_bornOf : Cond.instanceMethod yX4_bornOf ∈ TW := inTW 729 (by decide +kernel) rfl
theorem mv_X4_bornOf : MV yX4_bornOf := ⟨mi_X4_bornOf, inTW 730 (by decide +kernel) rfl⟩
theorem ml_X10_141 : Cond.methodLink RX10 141 yX4_toldDeathOf ∈ TW := inTW 732 (by decide +kernel) rfl
theorem mi_X4_toldDeathOf : Cond.instanceMethod yX4_toldDeathOf ∈ TW := inTW 733 (by decide +kernel) rfl
theorem mv_X4_toldDeathOf : MV yX4_toldDeathOf := ⟨mi_X4_toldDeathOf, inTW 734 (by decide +kernel) rfl⟩
theorem ml_X10_144 : Cond.methodLink RX10 144 yX4_fatherOf ∈ TW := inTW 736 (by decide +kernel) rfl
theorem mi_X4_fatherOf : Cond.instanceMethod yX4_fatherOf ∈ TW := inTW 737 (by decide +kernel) rfl
theorem mv_X4_fatherOf : MV yX4_fatherOf := ⟨mi_X4_fatherOf, inTW 738 (by decide +kernel) rfl⟩
theorem ml_X10_147 : Cond.methodLink RX10 147 yX4_motherOf ∈ TW := inTW 740 (by decide +kernel) rfl
theorem mi_X4_motherOf : Cond.instanceMethod yX4_motherOf ∈ TW := inTW 741 (by decide +kernel) rfl
theorem mv_X4_motherOf : MV yX4_motherOf := ⟨mi_X4_motherOf, inTW 742 (by decide +kernel) rfl⟩
theorem ml_X10_150 : Cond.methodLink RX10 150 yX4_fatherGradeOf ∈ TW := inTW 744 (by decide +kernel) rfl
theorem mi_X4_fatherGradeOf : Cond.instanceMethod yX4_fatherGradeOf ∈ TW := inTW 745 (by decide +kernel) rfl
theorem mv_X4_fatherGradeOf : MV yX4_fatherGradeOf := ⟨mi_X4_fatherGradeOf, inTW 746 (by decide +kernel) rfl⟩
theorem ml_X10_153 : Cond.methodLink RX10 153 yX4_motherGradeOf ∈ TW := inTW 748 (by decide +kernel) rfl
theorem mi_X4_motherGradeOf : Cond.instanceMethod yX4_motherGradeOf ∈ TW := inTW 749 (by decide +kernel) rfl
theorem mv_X4_motherGradeOf : MV yX4_motherGradeOf := ⟨mi_X4_motherGradeOf, inTW 750 (by decide +kernel) rfl⟩
theorem ml_X10_156 : Cond.methodLink RX10 156 yX4_isFemale ∈ TW := inTW 752 (by decide +kernel) rfl
theorem mi_X4_isFemale : Cond.instanceMethod yX4_isFemale ∈ TW := inTW 753 (by decide +kernel) rfl
theorem mv_X4_isFemale : MV yX4_isFemale := ⟨mi_X4_isFemale, inTW 754 (by decide +kernel) rfl⟩
theorem ml_X10_159 : Cond.methodLink RX10 159 yX10_asInt ∈ TW := inTW 756 (by decide +kernel) rfl
theorem ms_X10_asInt : Cond.static yX10_asInt ∈ TW := inTW 757 (by decide +kernel) rfl
theorem ml_X10_163 : Cond.methodLink RX10 163 yX4_childrenOf ∈ TW := inTW 759 (by decide +kernel) rfl
theorem mi_X4_childrenOf : Cond.instanceMethod yX4_childrenOf ∈ TW := inTW 760 (by decide +kernel) rfl
theorem mv_X4_childrenOf : MV yX4_childrenOf := ⟨mi_X4_childrenOf, inTW 761 (by decide +kernel) rfl⟩
theorem ml_L_98 : Cond.methodLink RL 98 yL_bears ∈ TW := inTW 764 (by decide +kernel) rfl
theorem ms_L_bears : Cond.static yL_bears ∈ TW := inTW 765 (by decide +kernel) rfl
theorem ml_L_28 : Cond.methodLink RL 28 yX10_bears ∈ TW := inTW 767 (by decide +kernel) rfl
theorem mi_X10_bears : Cond.instanceMethod yX10_bears ∈ TW := inTW 768 (by decide +kernel) rfl
theorem mv_X10_bears : MV yX10_bears := ⟨mi_X10_bears, inTW 769 (by decide +kernel) rfl⟩
theorem ml_X10_168 : Cond.methodLink RX10 168 yX5_find ∈ TW := inTW 771 (by decide +kernel) rfl
theorem mi_X5_find : Cond.instanceMethod yX5_find ∈ TW := inTW 772 (by decide +kernel) rfl
theorem mv_X5_find : MV yX5_find := ⟨mi_X5_find, inTW 773 (by decide +kernel) rfl⟩
theorem ml_X5_33 : Cond.methodLink RX5 33 yX5_climb ∈ TW := inTW 775 (by decide +kernel) rfl
theorem mi_X5_climb : Cond.instanceMethod yX5_climb ∈ TW := inTW 777 (by decide +kernel) rfl
theorem mv_X5_climb : MV yX5_climb := ⟨mi_X5_climb, inTW 15 (by decide +kernel) rfl⟩
theorem ml_X5_45 : Cond.methodLink RX5 45 yX1_ownArms ∈ TW := inTW 779 (by decide +kernel) rfl
theorem mi_X1_ownArms : Cond.instanceMethod yX1_ownArms ∈ TW := inTW 780 (by decide +kernel) rfl
theorem mv_X1_ownArms : MV yX1_ownArms := ⟨mi_X1_ownArms, inTW 781 (by decide +kernel) rfl⟩
theorem ml_X5_51 : Cond.methodLink RX5 51 yX4_fatherGradeOf ∈ TW := inTW 783 (by decide +kernel) rfl
theorem ml_X5_55 : Cond.methodLink RX5 55 yJ9_min_7cf53 ∈ TW := inTW 784 (by decide +kernel) rfl
theorem ml_X5_60 : Cond.methodLink RX5 60 yX4_fatherOf ∈ TW := inTW 785 (by decide +kernel) rfl
theorem ml_X5_37 : Cond.methodLink RX5 37 yX4_livingLines ∈ TW := inTW 786 (by decide +kernel) rfl
theorem mi_X4_livingLines : Cond.instanceMethod yX4_livingLines ∈ TW := inTW 787 (by decide +kernel) rfl
theorem mv_X4_livingLines : MV yX4_livingLines := ⟨mi_X4_livingLines, inTW 788 (by decide +kernel) rfl⟩
theorem ml_X4_61 : Cond.methodLink RX4 61 yX4_isLiving ∈ TW := inTW 790 (by decide +kernel) rfl
theorem mi_X4_isLiving : Cond.instanceMethod yX4_isLiving ∈ TW := inTW 791 (by decide +kernel) rfl
theorem mv_X4_isLiving : MV yX4_isLiving := ⟨mi_X4_isLiving, inTW 792 (by decide +kernel) rfl⟩
theorem ml_X4_64 : Cond.methodLink RX4 64 yX4_isIn ∈ TW := inTW 794 (by decide +kernel) rfl
theorem ms_X4_isIn : Cond.static yX4_isIn ∈ TW := inTW 795 (by decide +kernel) rfl
theorem ml_X5_41 : Cond.methodLink RX5 41 yX5_setMarks ∈ TW := inTW 797 (by decide +kernel) rfl
theorem mi_X5_setMarks : Cond.instanceMethod yX5_setMarks ∈ TW := inTW 799 (by decide +kernel) rfl
theorem mv_X5_setMarks : MV yX5_setMarks := ⟨mi_X5_setMarks, inTW 16 (by decide +kernel) rfl⟩
theorem ml_X5_63 : Cond.methodLink RX5 63 yX4_placeOf ∈ TW := inTW 801 (by decide +kernel) rfl
theorem mi_X4_placeOf : Cond.instanceMethod yX4_placeOf ∈ TW := inTW 802 (by decide +kernel) rfl
theorem mv_X4_placeOf : MV yX4_placeOf := ⟨mi_X4_placeOf, inTW 803 (by decide +kernel) rfl⟩
theorem ml_X4_72 : Cond.methodLink RX4 72 yX4_fatherOf ∈ TW := inTW 805 (by decide +kernel) rfl
theorem ml_X4_75 : Cond.methodLink RX4 75 yX4_isElder ∈ TW := inTW 806 (by decide +kernel) rfl
theorem mi_X4_isElder : Cond.instanceMethod yX4_isElder ∈ TW := inTW 808 (by decide +kernel) rfl
theorem mv_X4_isElder : MV yX4_isElder := ⟨mi_X4_isElder, inTW 17 (by decide +kernel) rfl⟩
theorem ml_X4_68 : Cond.methodLink RX4 68 yX4_bornOf ∈ TW := inTW 810 (by decide +kernel) rfl
theorem ml_X10_184 : Cond.methodLink RX10 184 yX4_isLiving ∈ TW := inTW 811 (by decide +kernel) rfl
theorem ml_X10_188 : Cond.methodLink RX10 188 yX4_livingLines ∈ TW := inTW 812 (by decide +kernel) rfl
theorem ml_X10_192 : Cond.methodLink RX10 192 yX4_isIn ∈ TW := inTW 813 (by decide +kernel) rfl
theorem ml_X10_196 : Cond.methodLink RX10 196 yX4_isHeiress ∈ TW := inTW 814 (by decide +kernel) rfl
theorem mi_X4_isHeiress : Cond.instanceMethod yX4_isHeiress ∈ TW := inTW 815 (by decide +kernel) rfl
theorem mv_X4_isHeiress : MV yX4_isHeiress := ⟨mi_X4_isHeiress, inTW 816 (by decide +kernel) rfl⟩
theorem ml_X4_86 : Cond.methodLink RX4 86 yX4_isFemale ∈ TW := inTW 818 (by decide +kernel) rfl
theorem ml_X10_200 : Cond.methodLink RX10 200 yX5_isPlain ∈ TW := inTW 819 (by decide +kernel) rfl
theorem mi_X5_isPlain : Cond.instanceMethod yX5_isPlain ∈ TW := inTW 820 (by decide +kernel) rfl
theorem mv_X5_isPlain : MV yX5_isPlain := ⟨mi_X5_isPlain, inTW 821 (by decide +kernel) rfl⟩
theorem ml_L_101 : Cond.methodLink RL 101 yL_mark ∈ TW := inTW 824 (by decide +kernel) rfl
theorem ms_L_mark : Cond.static yL_mark ∈ TW := inTW 825 (by decide +kernel) rfl
theorem ml_L_31 : Cond.methodLink RL 31 yX10_mark ∈ TW := inTW 827 (by decide +kernel) rfl
theorem mi_X10_mark : Cond.instanceMethod yX10_mark ∈ TW := inTW 828 (by decide +kernel) rfl
theorem mv_X10_mark : MV yX10_mark := ⟨mi_X10_mark, inTW 829 (by decide +kernel) rfl⟩
theorem ml_X10_207 : Cond.methodLink RX10 207 yX5_markAt ∈ TW := inTW 832 (by decide +kernel) rfl
theorem mi_X5_markAt : Cond.instanceMethod yX5_markAt ∈ TW := inTW 833 (by decide +kernel) rfl
theorem mv_X5_markAt : MV yX5_markAt := ⟨mi_X5_markAt, inTW 834 (by decide +kernel) rfl⟩
theorem ml_L_104 : Cond.methodLink RL 104 yL_head ∈ TW := inTW 836 (by decide +kernel) rfl
theorem ms_L_head : Cond.static yL_head ∈ TW := inTW 837 (by decide +kernel) rfl
theorem ml_L_34 : Cond.methodLink RL 34 yX10_head ∈ TW := inTW 839 (by decide +kernel) rfl
theorem mi_X10_head : Cond.instanceMethod yX10_head ∈ TW := inTW 840 (by decide +kernel) rfl
theorem mv_X10_head : MV yX10_head := ⟨mi_X10_head, inTW 841 (by decide +kernel) rfl⟩
theorem ml_X10_210 : Cond.methodLink RX10 210 yX4_headOf ∈ TW := inTW 843 (by decide +kernel) rfl
theorem mi_X4_headOf : Cond.instanceMethod yX4_headOf ∈ TW := inTW 844 (by decide +kernel) rfl
theorem mv_X4_headOf : MV yX4_headOf := ⟨mi_X4_headOf, inTW 845 (by decide +kernel) rfl⟩
theorem ml_X4_78 : Cond.methodLink RX4 78 yX4_livingLines ∈ TW := inTW 847 (by decide +kernel) rfl
theorem ml_X4_82 : Cond.methodLink RX4 82 yX4_heirOf ∈ TW := inTW 848 (by decide +kernel) rfl
theorem mi_X4_heirOf : Cond.instanceMethod yX4_heirOf ∈ TW := inTW 850 (by decide +kernel) rfl
theorem mv_X4_heirOf : MV yX4_heirOf := ⟨mi_X4_heirOf, inTW 18 (by decide +kernel) rfl⟩
theorem ml_L_107 : Cond.methodLink RL 107 yL_quarter ∈ TW := inTW 852 (by decide +kernel) rfl
theorem ms_L_quarter : Cond.static yL_quarter ∈ TW := inTW 853 (by decide +kernel) rfl
theorem ml_L_37 : Cond.methodLink RL 37 yX10_quarter ∈ TW := inTW 855 (by decide +kernel) rfl
theorem mi_X10_quarter : Cond.instanceMethod yX10_quarter ∈ TW := inTW 856 (by decide +kernel) rfl
theorem mv_X10_quarter : MV yX10_quarter := ⟨mi_X10_quarter, inTW 857 (by decide +kernel) rfl⟩
theorem ml_X10_214 : Cond.methodLink RX10 214 yX6_fill ∈ TW := inTW 859 (by decide +kernel) rfl
theorem mi_X6_fill : Cond.instanceMethod yX6_fill ∈ TW := inTW 860 (by decide +kernel) rfl
theorem mv_X6_fill : MV yX6_fill := ⟨mi_X6_fill, inTW 861 (by decide +kernel) rfl⟩
theorem ml_X6_20 : Cond.methodLink RX6 20 yX4_livingLines ∈ TW := inTW 863 (by decide +kernel) rfl
theorem ml_X6_24 : Cond.methodLink RX6 24 yX4_forebears ∈ TW := inTW 864 (by decide +kernel) rfl
theorem mi_X4_forebears : Cond.instanceMethod yX4_forebears ∈ TW := inTW 865 (by decide +kernel) rfl
theorem mv_X4_forebears : MV yX4_forebears := ⟨mi_X4_forebears, inTW 866 (by decide +kernel) rfl⟩
theorem ml_X6_27 : Cond.methodLink RX6 27 yX4_isIn ∈ TW := inTW 868 (by decide +kernel) rfl
theorem ml_X6_31 : Cond.methodLink RX6 31 yX4_fatherOf ∈ TW := inTW 869 (by decide +kernel) rfl
theorem ml_X6_35 : Cond.methodLink RX6 35 yX6_addRow ∈ TW := inTW 870 (by decide +kernel) rfl
theorem mi_X6_addRow : Cond.instanceMethod yX6_addRow ∈ TW := inTW 872 (by decide +kernel) rfl
theorem mv_X6_addRow : MV yX6_addRow := ⟨mi_X6_addRow, inTW 19 (by decide +kernel) rfl⟩
theorem ml_X6_55 : Cond.methodLink RX6 55 yX6_sizeOf ∈ TW := inTW 874 (by decide +kernel) rfl
theorem mi_X6_sizeOf : Cond.instanceMethod yX6_sizeOf ∈ TW := inTW 875 (by decide +kernel) rfl
theorem mv_X6_sizeOf : MV yX6_sizeOf := ⟨mi_X6_sizeOf, inTW 876 (by decide +kernel) rfl⟩
theorem ml_X6_58 : Cond.methodLink RX6 58 yX6_armsAt ∈ TW := inTW 878 (by decide +kernel) rfl
theorem mi_X6_armsAt : Cond.instanceMethod yX6_armsAt ∈ TW := inTW 879 (by decide +kernel) rfl
theorem mv_X6_armsAt : MV yX6_armsAt := ⟨mi_X6_armsAt, inTW 880 (by decide +kernel) rfl⟩
theorem ml_X6_61 : Cond.methodLink RX6 61 yX6_isPlace ∈ TW := inTW 882 (by decide +kernel) rfl
theorem ms_X6_isPlace : Cond.static yX6_isPlace ∈ TW := inTW 883 (by decide +kernel) rfl
theorem ml_X6_45 : Cond.methodLink RX6 45 yX6_addArms ∈ TW := inTW 885 (by decide +kernel) rfl
theorem mi_X6_addArms : Cond.instanceMethod yX6_addArms ∈ TW := inTW 887 (by decide +kernel) rfl
theorem mv_X6_addArms : MV yX6_addArms := ⟨mi_X6_addArms, inTW 20 (by decide +kernel) rfl⟩
theorem ml_X6_39 : Cond.methodLink RX6 39 yX1_ownArms ∈ TW := inTW 889 (by decide +kernel) rfl
theorem ml_X6_48 : Cond.methodLink RX6 48 yX4_motherOf ∈ TW := inTW 890 (by decide +kernel) rfl
theorem ml_X6_51 : Cond.methodLink RX6 51 yX4_bringsQuarters ∈ TW := inTW 891 (by decide +kernel) rfl
theorem mi_X4_bringsQuarters : Cond.instanceMethod yX4_bringsQuarters ∈ TW := inTW 892 (by decide +kernel) rfl
theorem mv_X4_bringsQuarters : MV yX4_bringsQuarters := ⟨mi_X4_bringsQuarters, inTW 893 (by decide +kernel) rfl⟩
theorem ml_X4_89 : Cond.methodLink RX4 89 yX4_isHeiress ∈ TW := inTW 895 (by decide +kernel) rfl
theorem ml_X10_217 : Cond.methodLink RX10 217 yX6_sizeOf ∈ TW := inTW 896 (by decide +kernel) rfl
theorem ml_X10_222 : Cond.methodLink RX10 222 yX6_armsAt ∈ TW := inTW 898 (by decide +kernel) rfl
theorem ml_L_110 : Cond.methodLink RL 110 yL_claim ∈ TW := inTW 899 (by decide +kernel) rfl
theorem ms_L_claim : Cond.static yL_claim ∈ TW := inTW 900 (by decide +kernel) rfl
theorem ml_L_40 : Cond.methodLink RL 40 yX10_claim ∈ TW := inTW 902 (by decide +kernel) rfl
theorem mi_X10_claim : Cond.instanceMethod yX10_claim ∈ TW := inTW 903 (by decide +kernel) rfl
theorem mv_X10_claim : MV yX10_claim := ⟨mi_X10_claim, inTW 904 (by decide +kernel) rfl⟩
theorem ml_X10_225 : Cond.methodLink RX10 225 yX10_judge ∈ TW := inTW 906 (by decide +kernel) rfl
theorem mi_X10_judge : Cond.instanceMethod yX10_judge ∈ TW := inTW 908 (by decide +kernel) rfl
theorem mv_X10_judge : MV yX10_judge := ⟨mi_X10_judge, inTW 21 (by decide +kernel) rfl⟩
theorem ml_X10_282 : Cond.methodLink RX10 282 yX2_setName ∈ TW := inTW 910 (by decide +kernel) rfl
theorem mi_X2_setName : Cond.instanceMethod yX2_setName ∈ TW := inTW 911 (by decide +kernel) rfl
theorem mv_X2_setName : MV yX2_setName := ⟨mi_X2_setName, inTW 912 (by decide +kernel) rfl⟩
theorem ml_X10_239 : Cond.methodLink RX10 239 yX10_countRivals ∈ TW := inTW 914 (by decide +kernel) rfl
theorem mi_X10_countRivals : Cond.instanceMethod yX10_countRivals ∈ TW := inTW 916 (by decide +kernel) rfl
theorem mv_X10_countRivals : MV yX10_countRivals := ⟨mi_X10_countRivals, inTW 22 (by decide +kernel) rfl⟩
theorem ml_X10_290 : Cond.methodLink RX10 290 yX1_ownArms ∈ TW := inTW 918 (by decide +kernel) rfl
theorem ml_X10_288 : Cond.methodLink RX10 288 yX2_judge ∈ TW := inTW 919 (by decide +kernel) rfl
theorem mi_X2_judge : Cond.instanceMethod yX2_judge ∈ TW := inTW 920 (by decide +kernel) rfl
theorem mv_X2_judge : MV yX2_judge := ⟨mi_X2_judge, inTW 921 (by decide +kernel) rfl⟩
theorem ml_X2_50 : Cond.methodLink RX2 50 yX2_inForce ∈ TW := inTW 923 (by decide +kernel) rfl
theorem mi_X2_inForce : Cond.instanceMethod yX2_inForce ∈ TW := inTW 925 (by decide +kernel) rfl
theorem mv_X2_inForce : MV yX2_inForce := ⟨mi_X2_inForce, inTW 23 (by decide +kernel) rfl⟩
theorem ml_X2_57 : Cond.methodLink RX2 57 yX2_work ∈ TW := inTW 927 (by decide +kernel) rfl
theorem mi_X2_work : Cond.instanceMethod yX2_work ∈ TW := inTW 929 (by decide +kernel) rfl
theorem mv_X2_work : MV yX2_work := ⟨mi_X2_work, inTW 24 (by decide +kernel) rfl⟩
theorem ml_X2_64 : Cond.methodLink RX2 64 yX7_isNumber ∈ TW := inTW 931 (by decide +kernel) rfl
theorem ml_X2_68 : Cond.methodLink RX2 68 yX2_push ∈ TW := inTW 932 (by decide +kernel) rfl
theorem mi_X2_push : Cond.instanceMethod yX2_push ∈ TW := inTW 934 (by decide +kernel) rfl
theorem mv_X2_push : MV yX2_push := ⟨mi_X2_push, inTW 25 (by decide +kernel) rfl⟩
theorem ml_X2_71 : Cond.methodLink RX2 71 yX7_isName ∈ TW := inTW 936 (by decide +kernel) rfl
theorem ml_X2_74 : Cond.methodLink RX2 74 yX2_nameValue ∈ TW := inTW 937 (by decide +kernel) rfl
theorem mi_X2_nameValue : Cond.instanceMethod yX2_nameValue ∈ TW := inTW 939 (by decide +kernel) rfl
theorem mv_X2_nameValue : MV yX2_nameValue := ⟨mi_X2_nameValue, inTW 26 (by decide +kernel) rfl⟩
theorem ml_X2_78 : Cond.methodLink RX2 78 yX2_pop ∈ TW := inTW 941 (by decide +kernel) rfl
theorem mi_X2_pop : Cond.instanceMethod yX2_pop ∈ TW := inTW 943 (by decide +kernel) rfl
theorem mv_X2_pop : MV yX2_pop := ⟨mi_X2_pop, inTW 27 (by decide +kernel) rfl⟩
theorem mn_X2_82 : Cond.methodLinkNest RX2 82 yX10_asInt "ArmsBook" ∈ EWL := inEW 877 (by decide +kernel) rfl
theorem ml_X2_86 : Cond.methodLink RX2 86 yX2_joined ∈ TW := inTW 946 (by decide +kernel) rfl
theorem ms_X2_joined : Cond.static yX2_joined ∈ TW := inTW 947 (by decide +kernel) rfl
theorem ml_L_113 : Cond.methodLink RL 113 yL_fee ∈ TW := inTW 949 (by decide +kernel) rfl
theorem ms_L_fee : Cond.static yL_fee ∈ TW := inTW 950 (by decide +kernel) rfl
theorem ml_L_43 : Cond.methodLink RL 43 yX10_fee ∈ TW := inTW 952 (by decide +kernel) rfl
theorem mi_X10_fee : Cond.instanceMethod yX10_fee ∈ TW := inTW 953 (by decide +kernel) rfl
theorem mv_X10_fee : MV yX10_fee := ⟨mi_X10_fee, inTW 954 (by decide +kernel) rfl⟩
theorem ml_L_116 : Cond.methodLink RL 116 yL_rivals ∈ TW := inTW 956 (by decide +kernel) rfl
theorem ms_L_rivals : Cond.static yL_rivals ∈ TW := inTW 957 (by decide +kernel) rfl
theorem ml_L_46 : Cond.methodLink RL 46 yX10_rivals ∈ TW := inTW 959 (by decide +kernel) rfl
theorem mi_X10_rivals : Cond.instanceMethod yX10_rivals ∈ TW := inTW 960 (by decide +kernel) rfl
theorem mv_X10_rivals : MV yX10_rivals := ⟨mi_X10_rivals, inTW 961 (by decide +kernel) rfl⟩
theorem ml_L_119 : Cond.methodLink RL 119 yL_common ∈ TW := inTW 963 (by decide +kernel) rfl
theorem ms_L_common : Cond.static yL_common ∈ TW := inTW 964 (by decide +kernel) rfl
theorem ml_L_49 : Cond.methodLink RL 49 yX10_common ∈ TW := inTW 966 (by decide +kernel) rfl
theorem mi_X10_common : Cond.instanceMethod yX10_common ∈ TW := inTW 967 (by decide +kernel) rfl
theorem mv_X10_common : MV yX10_common := ⟨mi_X10_common, inTW 968 (by decide +kernel) rfl⟩
theorem ml_X10_242 : Cond.methodLink RX10 242 yX4_forebears ∈ TW := inTW 970 (by decide +kernel) rfl
theorem ml_L_126 : Cond.methodLink RL 126 yL_of ∈ TW := inTW 971 (by decide +kernel) rfl
theorem ms_L_of : Cond.static yL_of ∈ TW := inTW 972 (by decide +kernel) rfl
theorem ml_L_52 : Cond.methodLink RL 52 yX10_of ∈ TW := inTW 974 (by decide +kernel) rfl
theorem mi_X10_of : Cond.instanceMethod yX10_of ∈ TW := inTW 975 (by decide +kernel) rfl
theorem mv_X10_of : MV yX10_of := ⟨mi_X10_of, inTW 976 (by decide +kernel) rfl⟩
theorem ml_X10_250 : Cond.methodLink RX10 250 yX0_has ∈ TW := inTW 978 (by decide +kernel) rfl
theorem mi_X0_has : Cond.instanceMethod yX0_has ∈ TW := inTW 979 (by decide +kernel) rfl
theorem mv_X0_has : MV yX0_has := ⟨mi_X0_has, inTW 980 (by decide +kernel) rfl⟩
theorem ml_X10_255 : Cond.methodLink RX10 255 yX0_sourceOf ∈ TW := inTW 983 (by decide +kernel) rfl
theorem mi_X0_sourceOf : Cond.instanceMethod yX0_sourceOf ∈ TW := inTW 984 (by decide +kernel) rfl
theorem mv_X0_sourceOf : MV yX0_sourceOf := ⟨mi_X0_sourceOf, inTW 985 (by decide +kernel) rfl⟩
theorem ml_X0_33 : Cond.methodLink RX0 33 yX0_changes ∈ TW := inTW 987 (by decide +kernel) rfl
theorem mi_X0_changes : Cond.instanceMethod yX0_changes ∈ TW := inTW 989 (by decide +kernel) rfl
theorem mv_X0_changes : MV yX0_changes := ⟨mi_X0_changes, inTW 28 (by decide +kernel) rfl⟩
theorem ml_X0_29 : Cond.methodLink RX0 29 yX0_rowOf ∈ TW := inTW 991 (by decide +kernel) rfl
theorem mi_X0_rowOf : Cond.instanceMethod yX0_rowOf ∈ TW := inTW 993 (by decide +kernel) rfl
theorem mv_X0_rowOf : MV yX0_rowOf := ⟨mi_X0_rowOf, inTW 29 (by decide +kernel) rfl⟩
theorem ml_X0_26 : Cond.methodLink RX0 26 yX0_has ∈ TW := inTW 995 (by decide +kernel) rfl
theorem ml_X0_37 : Cond.methodLink RX0 37 yX0_yearOf ∈ TW := inTW 996 (by decide +kernel) rfl
theorem mi_X0_yearOf : Cond.instanceMethod yX0_yearOf ∈ TW := inTW 998 (by decide +kernel) rfl
theorem mv_X0_yearOf : MV yX0_yearOf := ⟨mi_X0_yearOf, inTW 30 (by decide +kernel) rfl⟩
theorem ml_X10_258 : Cond.methodLink RX10 258 yX0_changesOf ∈ TW := inTW 1000 (by decide +kernel) rfl
theorem mi_X0_changesOf : Cond.instanceMethod yX0_changesOf ∈ TW := inTW 1001 (by decide +kernel) rfl
theorem mv_X0_changesOf : MV yX0_changesOf := ⟨mi_X0_changesOf, inTW 1002 (by decide +kernel) rfl⟩
theorem ml_X0_40 : Cond.methodLink RX0 40 yX0_sourceOf ∈ TW := inTW 1004 (by decide +kernel) rfl
theorem ml_X10_261 : Cond.methodLink RX10 261 yX0_driftOf ∈ TW := inTW 1005 (by decide +kernel) rfl
theorem mi_X0_driftOf : Cond.instanceMethod yX0_driftOf ∈ TW := inTW 1006 (by decide +kernel) rfl
theorem mv_X0_driftOf : MV yX0_driftOf := ⟨mi_X0_driftOf, inTW 1007 (by decide +kernel) rfl⟩
theorem ml_X10_264 : Cond.methodLink RX10 264 yX0_originalOf ∈ TW := inTW 1009 (by decide +kernel) rfl
theorem mi_X0_originalOf : Cond.instanceMethod yX0_originalOf ∈ TW := inTW 1010 (by decide +kernel) rfl
theorem mv_X0_originalOf : MV yX0_originalOf := ⟨mi_X0_originalOf, inTW 1011 (by decide +kernel) rfl⟩
theorem ml_X10_267 : Cond.methodLink RX10 267 yX0_takenFrom ∈ TW := inTW 1013 (by decide +kernel) rfl
theorem mi_X0_takenFrom : Cond.instanceMethod yX0_takenFrom ∈ TW := inTW 1014 (by decide +kernel) rfl
theorem mv_X0_takenFrom : MV yX0_takenFrom := ⟨mi_X0_takenFrom, inTW 1015 (by decide +kernel) rfl⟩
theorem ml_L_129 : Cond.methodLink RL 129 yL_count ∈ TW := inTW 1018 (by decide +kernel) rfl
theorem ms_L_count : Cond.static yL_count ∈ TW := inTW 1019 (by decide +kernel) rfl
theorem ml_L_55 : Cond.methodLink RL 55 yX10_count ∈ TW := inTW 1021 (by decide +kernel) rfl
theorem mi_X10_count : Cond.instanceMethod yX10_count ∈ TW := inTW 1022 (by decide +kernel) rfl
theorem mv_X10_count : MV yX10_count := ⟨mi_X10_count, inTW 1023 (by decide +kernel) rfl⟩
theorem ml_L_62 : Cond.methodLink RL 62 yX11_init ∈ TW := inTW 1028 (by decide +kernel) rfl
theorem mi_X11_init : Cond.instanceMethod yX11_init ∈ TW := inTW 1029 (by decide +kernel) rfl
theorem fg_X11_25 : FG RX11 25 11 0 := ⟨RX11, TX11, 43, rfl, uw_X11, by decide, inTW 1042 (by decide +kernel) rfl, rfl⟩
theorem fg_X11_110 : FG RX11 110 11 1 := ⟨RX11, TX11, 43, rfl, uw_X11, by decide, inTW 1043 (by decide +kernel) rfl, rfl⟩
theorem fg_X11_113 : FG RX11 113 11 2 := ⟨RX11, TX11, 43, rfl, uw_X11, by decide, inTW 1044 (by decide +kernel) rfl, rfl⟩
theorem fg_X11_135 : FG RX11 135 11 3 := ⟨RX11, TX11, 43, rfl, uw_X11, by decide, inTW 1045 (by decide +kernel) rfl, rfl⟩
theorem fg_X11_240 : FG RX11 240 11 4 := ⟨RX11, TX11, 43, rfl, uw_X11, by decide, inTW 1046 (by decide +kernel) rfl, rfl⟩
theorem fg_X11_306 : FG RX11 306 11 5 := ⟨RX11, TX11, 43, rfl, uw_X11, by decide, inTW 1047 (by decide +kernel) rfl, rfl⟩
theorem fg_X11_197 : FG RX11 197 11 6 := ⟨RX11, TX11, 43, rfl, uw_X11, by decide, inTW 1048 (by decide +kernel) rfl, rfl⟩
theorem fg_X11_31 : FG RX11 31 11 7 := ⟨RX11, TX11, 43, rfl, uw_X11, by decide, inTW 1049 (by decide +kernel) rfl, rfl⟩
theorem fg_X11_35 : FG RX11 35 11 8 := ⟨RX11, TX11, 43, rfl, uw_X11, by decide, inTW 1050 (by decide +kernel) rfl, rfl⟩
theorem fg_X11_39 : FG RX11 39 11 9 := ⟨RX11, TX11, 43, rfl, uw_X11, by decide, inTW 1051 (by decide +kernel) rfl, rfl⟩
theorem fg_X11_42 : FG RX11 42 11 10 := ⟨RX11, TX11, 43, rfl, uw_X11, by decide, inTW 1052 (by decide +kernel) rfl, rfl⟩
theorem fg_X11_45 : FG RX11 45 11 11 := ⟨RX11, TX11, 43, rfl, uw_X11, by decide, inTW 1053 (by decide +kernel) rfl, rfl⟩
theorem fg_X11_48 : FG RX11 48 11 12 := ⟨RX11, TX11, 43, rfl, uw_X11, by decide, inTW 1054 (by decide +kernel) rfl, rfl⟩
theorem fg_X11_51 : FG RX11 51 11 13 := ⟨RX11, TX11, 43, rfl, uw_X11, by decide, inTW 1055 (by decide +kernel) rfl, rfl⟩
theorem fg_X11_54 : FG RX11 54 11 14 := ⟨RX11, TX11, 43, rfl, uw_X11, by decide, inTW 1056 (by decide +kernel) rfl, rfl⟩
theorem fg_X11_57 : FG RX11 57 11 15 := ⟨RX11, TX11, 43, rfl, uw_X11, by decide, inTW 1057 (by decide +kernel) rfl, rfl⟩
theorem fg_X11_60 : FG RX11 60 11 16 := ⟨RX11, TX11, 43, rfl, uw_X11, by decide, inTW 1058 (by decide +kernel) rfl, rfl⟩
theorem fg_X11_63 : FG RX11 63 11 17 := ⟨RX11, TX11, 43, rfl, uw_X11, by decide, inTW 1059 (by decide +kernel) rfl, rfl⟩
theorem fg_X11_66 : FG RX11 66 11 18 := ⟨RX11, TX11, 43, rfl, uw_X11, by decide, inTW 1060 (by decide +kernel) rfl, rfl⟩
theorem fg_X11_69 : FG RX11 69 11 19 := ⟨RX11, TX11, 43, rfl, uw_X11, by decide, inTW 1061 (by decide +kernel) rfl, rfl⟩
theorem fg_X11_72 : FG RX11 72 11 20 := ⟨RX11, TX11, 43, rfl, uw_X11, by decide, inTW 1062 (by decide +kernel) rfl, rfl⟩
theorem fg_X11_75 : FG RX11 75 11 21 := ⟨RX11, TX11, 43, rfl, uw_X11, by decide, inTW 1063 (by decide +kernel) rfl, rfl⟩
theorem fg_X11_78 : FG RX11 78 11 22 := ⟨RX11, TX11, 43, rfl, uw_X11, by decide, inTW 1064 (by decide +kernel) rfl, rfl⟩
theorem fg_X11_81 : FG RX11 81 11 23 := ⟨RX11, TX11, 43, rfl, uw_X11, by decide, inTW 1065 (by decide +kernel) rfl, rfl⟩
theorem fg_X11_84 : FG RX11 84 11 24 := ⟨RX11, TX11, 43, rfl, uw_X11, by decide, inTW 1066 (by decide +kernel) rfl, rfl⟩
theorem fg_X11_87 : FG RX11 87 11 25 := ⟨RX11, TX11, 43, rfl, uw_X11, by decide, inTW 1067 (by decide +kernel) rfl, rfl⟩
theorem fg_X11_90 : FG RX11 90 11 26 := ⟨RX11, TX11, 43, rfl, uw_X11, by decide, inTW 1068 (by decide +kernel) rfl, rfl⟩
theorem fg_X11_243 : FG RX11 243 11 27 := ⟨RX11, TX11, 43, rfl, uw_X11, by decide, inTW 1069 (by decide +kernel) rfl, rfl⟩
theorem fg_X11_203 : FG RX11 203 11 28 := ⟨RX11, TX11, 43, rfl, uw_X11, by decide, inTW 1070 (by decide +kernel) rfl, rfl⟩
theorem fg_X11_200 : FG RX11 200 11 29 := ⟨RX11, TX11, 43, rfl, uw_X11, by decide, inTW 1071 (by decide +kernel) rfl, rfl⟩
theorem fg_X11_215 : FG RX11 215 11 30 := ⟨RX11, TX11, 43, rfl, uw_X11, by decide, inTW 1072 (by decide +kernel) rfl, rfl⟩
theorem fg_X11_212 : FG RX11 212 11 31 := ⟨RX11, TX11, 43, rfl, uw_X11, by decide, inTW 1073 (by decide +kernel) rfl, rfl⟩
theorem fg_X11_209 : FG RX11 209 11 32 := ⟨RX11, TX11, 43, rfl, uw_X11, by decide, inTW 1074 (by decide +kernel) rfl, rfl⟩
theorem fg_X11_224 : FG RX11 224 11 33 := ⟨RX11, TX11, 43, rfl, uw_X11, by decide, inTW 1075 (by decide +kernel) rfl, rfl⟩
theorem fg_X11_234 : FG RX11 234 11 34 := ⟨RX11, TX11, 43, rfl, uw_X11, by decide, inTW 1076 (by decide +kernel) rfl, rfl⟩
theorem fg_X11_237 : FG RX11 237 11 35 := ⟨RX11, TX11, 43, rfl, uw_X11, by decide, inTW 1077 (by decide +kernel) rfl, rfl⟩
theorem fg_X11_289 : FG RX11 289 11 36 := ⟨RX11, TX11, 43, rfl, uw_X11, by decide, inTW 1078 (by decide +kernel) rfl, rfl⟩
theorem fg_X11_93 : FG RX11 93 11 37 := ⟨RX11, TX11, 43, rfl, uw_X11, by decide, inTW 1079 (by decide +kernel) rfl, rfl⟩
theorem fg_X11_96 : FG RX11 96 11 38 := ⟨RX11, TX11, 43, rfl, uw_X11, by decide, inTW 1080 (by decide +kernel) rfl, rfl⟩
theorem fg_X11_99 : FG RX11 99 11 39 := ⟨RX11, TX11, 43, rfl, uw_X11, by decide, inTW 1081 (by decide +kernel) rfl, rfl⟩
theorem fg_X11_102 : FG RX11 102 11 40 := ⟨RX11, TX11, 43, rfl, uw_X11, by decide, inTW 1082 (by decide +kernel) rfl, rfl⟩
theorem fg_X11_104 : FG RX11 104 11 41 := ⟨RX11, TX11, 43, rfl, uw_X11, by decide, inTW 1083 (by decide +kernel) rfl, rfl⟩
theorem fg_X11_107 : FG RX11 107 11 42 := ⟨RX11, TX11, 43, rfl, uw_X11, by decide, inTW 1084 (by decide +kernel) rfl, rfl⟩
theorem ml_L_74 : Cond.methodLink RL 74 yX11_thrown ∈ TW := inTW 1172 (by decide +kernel) rfl
theorem mi_X11_thrown : Cond.instanceMethod yX11_thrown ∈ TW := inTW 1173 (by decide +kernel) rfl
theorem mv_X11_thrown : MV yX11_thrown := ⟨mi_X11_thrown, inTW 1174 (by decide +kernel) rfl⟩
theorem ml_L_67 : Cond.methodLink RL 67 yX11_person ∈ TW := inTW 1176 (by decide +kernel) rfl
theorem mi_X11_person : Cond.instanceMethod yX11_person ∈ TW := inTW 1177 (by decide +kernel) rfl
theorem mv_X11_person : MV yX11_person := ⟨mi_X11_person, inTW 1178 (by decide +kernel) rfl⟩
theorem ml_X11_116 : Cond.methodLink RX11 116 yX11_isYear ∈ TW := inTW 1180 (by decide +kernel) rfl
theorem ms_X11_isYear : Cond.static yX11_isYear ∈ TW := inTW 1181 (by decide +kernel) rfl
theorem ml_L_73 : Cond.methodLink RL 73 yX11_parent ∈ TW := inTW 1183 (by decide +kernel) rfl
theorem mi_X11_parent : Cond.instanceMethod yX11_parent ∈ TW := inTW 1184 (by decide +kernel) rfl
theorem mv_X11_parent : MV yX11_parent := ⟨mi_X11_parent, inTW 1185 (by decide +kernel) rfl⟩
theorem ml_X11_124 : Cond.methodLink RX11 124 yX11_is ∈ TW := inTW 1187 (by decide +kernel) rfl
theorem mi_X11_is : Cond.instanceMethod yX11_is ∈ TW := inTW 1189 (by decide +kernel) rfl
theorem mv_X11_is : MV yX11_is := ⟨mi_X11_is, inTW 31 (by decide +kernel) rfl⟩
theorem ml_X11_127 : Cond.methodLink RX11 127 yX11_fail ∈ TW := inTW 1191 (by decide +kernel) rfl
theorem mi_X11_fail : Cond.instanceMethod yX11_fail ∈ TW := inTW 1193 (by decide +kernel) rfl
theorem mv_X11_fail : MV yX11_fail := ⟨mi_X11_fail, inTW 32 (by decide +kernel) rfl⟩
theorem ml_X11_120 : Cond.methodLink RX11 120 yX11_end ∈ TW := inTW 1195 (by decide +kernel) rfl
theorem mi_X11_end : Cond.instanceMethod yX11_end ∈ TW := inTW 1197 (by decide +kernel) rfl
theorem mv_X11_end : MV yX11_end := ⟨mi_X11_end, inTW 33 (by decide +kernel) rfl⟩
theorem ml_X11_131 : Cond.methodLink RX11 131 yX11_lives ∈ TW := inTW 1199 (by decide +kernel) rfl
theorem mi_X11_lives : Cond.instanceMethod yX11_lives ∈ TW := inTW 1201 (by decide +kernel) rfl
theorem mv_X11_lives : MV yX11_lives := ⟨mi_X11_lives, inTW 34 (by decide +kernel) rfl⟩
theorem ml_L_81 : Cond.methodLink RL 81 yX11_grant ∈ TW := inTW 1203 (by decide +kernel) rfl
theorem mi_X11_grant : Cond.instanceMethod yX11_grant ∈ TW := inTW 1204 (by decide +kernel) rfl
theorem mv_X11_grant : MV yX11_grant := ⟨mi_X11_grant, inTW 1205 (by decide +kernel) rfl⟩
theorem ml_L_97 : Cond.methodLink RL 97 yX11_about ∈ TW := inTW 1207 (by decide +kernel) rfl
theorem mi_X11_about : Cond.instanceMethod yX11_about ∈ TW := inTW 1208 (by decide +kernel) rfl
theorem mv_X11_about : MV yX11_about := ⟨mi_X11_about, inTW 1209 (by decide +kernel) rfl⟩
theorem ml_X11_138 : Cond.methodLink RX11 138 yX11_isChild ∈ TW := inTW 1211 (by decide +kernel) rfl
theorem mi_X11_isChild : Cond.instanceMethod yX11_isChild ∈ TW := inTW 1213 (by decide +kernel) rfl
theorem mv_X11_isChild : MV yX11_isChild := ⟨mi_X11_isChild, inTW 35 (by decide +kernel) rfl⟩
theorem ml_L_100 : Cond.methodLink RL 100 yX11_bears ∈ TW := inTW 1215 (by decide +kernel) rfl
theorem mi_X11_bears : Cond.instanceMethod yX11_bears ∈ TW := inTW 1216 (by decide +kernel) rfl
theorem mv_X11_bears : MV yX11_bears := ⟨mi_X11_bears, inTW 1217 (by decide +kernel) rfl⟩
theorem ml_X11_145 : Cond.methodLink RX11 145 yX11_rootOf ∈ TW := inTW 1219 (by decide +kernel) rfl
theorem mi_X11_rootOf : Cond.instanceMethod yX11_rootOf ∈ TW := inTW 1221 (by decide +kernel) rfl
theorem mv_X11_rootOf : MV yX11_rootOf := ⟨mi_X11_rootOf, inTW 36 (by decide +kernel) rfl⟩
theorem ml_X11_141 : Cond.methodLink RX11 141 yX11_own ∈ TW := inTW 1223 (by decide +kernel) rfl
theorem mi_X11_own : Cond.instanceMethod yX11_own ∈ TW := inTW 1225 (by decide +kernel) rfl
theorem mv_X11_own : MV yX11_own := ⟨mi_X11_own, inTW 37 (by decide +kernel) rfl⟩
theorem ml_X11_169 : Cond.methodLink RX11 169 yX11_armsOf ∈ TW := inTW 1227 (by decide +kernel) rfl
theorem mi_X11_armsOf : Cond.instanceMethod yX11_armsOf ∈ TW := inTW 1229 (by decide +kernel) rfl
theorem mv_X11_armsOf : MV yX11_armsOf := ⟨mi_X11_armsOf, inTW 38 (by decide +kernel) rfl⟩
theorem ml_X11_160 : Cond.methodLink RX11 160 yX11_stepsOf ∈ TW := inTW 1231 (by decide +kernel) rfl
theorem mi_X11_stepsOf : Cond.instanceMethod yX11_stepsOf ∈ TW := inTW 1233 (by decide +kernel) rfl
theorem mv_X11_stepsOf : MV yX11_stepsOf := ⟨mi_X11_stepsOf, inTW 39 (by decide +kernel) rfl⟩
theorem ml_X11_172 : Cond.methodLink RX11 172 yX11_gradeOf ∈ TW := inTW 1235 (by decide +kernel) rfl
theorem mi_X11_gradeOf : Cond.instanceMethod yX11_gradeOf ∈ TW := inTW 1237 (by decide +kernel) rfl
theorem mv_X11_gradeOf : MV yX11_gradeOf := ⟨mi_X11_gradeOf, inTW 40 (by decide +kernel) rfl⟩
theorem ml_X11_148 : Cond.methodLink RX11 148 yJ9_min_7cf53 ∈ TW := inTW 1239 (by decide +kernel) rfl
theorem ml_X11_156 : Cond.methodLink RX11 156 yX11_lines ∈ TW := inTW 1240 (by decide +kernel) rfl
theorem mi_X11_lines : Cond.instanceMethod yX11_lines ∈ TW := inTW 1242 (by decide +kernel) rfl
theorem mv_X11_lines : MV yX11_lines := ⟨mi_X11_lines, inTW 41 (by decide +kernel) rfl⟩
theorem ml_X11_175 : Cond.methodLink RX11 175 yX11_isHeiress ∈ TW := inTW 1244 (by decide +kernel) rfl
theorem mi_X11_isHeiress : Cond.instanceMethod yX11_isHeiress ∈ TW := inTW 1246 (by decide +kernel) rfl
theorem mv_X11_isHeiress : MV yX11_isHeiress := ⟨mi_X11_isHeiress, inTW 42 (by decide +kernel) rfl⟩
theorem ml_X11_178 : Cond.methodLink RX11 178 yX11_marksAbove ∈ TW := inTW 1248 (by decide +kernel) rfl
theorem mi_X11_marksAbove : Cond.instanceMethod yX11_marksAbove ∈ TW := inTW 1250 (by decide +kernel) rfl
theorem mv_X11_marksAbove : MV yX11_marksAbove := ⟨mi_X11_marksAbove, inTW 43 (by decide +kernel) rfl⟩
theorem ml_X11_166 : Cond.methodLink RX11 166 yX11_marksOf ∈ TW := inTW 1252 (by decide +kernel) rfl
theorem mi_X11_marksOf : Cond.instanceMethod yX11_marksOf ∈ TW := inTW 1254 (by decide +kernel) rfl
theorem mv_X11_marksOf : MV yX11_marksOf := ⟨mi_X11_marksOf, inTW 44 (by decide +kernel) rfl⟩
theorem ml_X11_163 : Cond.methodLink RX11 163 yX11_placeOf ∈ TW := inTW 1256 (by decide +kernel) rfl
theorem mi_X11_placeOf : Cond.instanceMethod yX11_placeOf ∈ TW := inTW 1258 (by decide +kernel) rfl
theorem mv_X11_placeOf : MV yX11_placeOf := ⟨mi_X11_placeOf, inTW 45 (by decide +kernel) rfl⟩
theorem ml_X11_153 : Cond.methodLink RX11 153 yX11_isAhead ∈ TW := inTW 1260 (by decide +kernel) rfl
theorem mi_X11_isAhead : Cond.instanceMethod yX11_isAhead ∈ TW := inTW 1262 (by decide +kernel) rfl
theorem mv_X11_isAhead : MV yX11_isAhead := ⟨mi_X11_isAhead, inTW 46 (by decide +kernel) rfl⟩
theorem ml_L_103 : Cond.methodLink RL 103 yX11_mark ∈ TW := inTW 1264 (by decide +kernel) rfl
theorem mi_X11_mark : Cond.instanceMethod yX11_mark ∈ TW := inTW 1265 (by decide +kernel) rfl
theorem mv_X11_mark : MV yX11_mark := ⟨mi_X11_mark, inTW 1266 (by decide +kernel) rfl⟩
theorem ml_L_106 : Cond.methodLink RL 106 yX11_head ∈ TW := inTW 1268 (by decide +kernel) rfl
theorem mi_X11_head : Cond.instanceMethod yX11_head ∈ TW := inTW 1269 (by decide +kernel) rfl
theorem mv_X11_head : MV yX11_head := ⟨mi_X11_head, inTW 1270 (by decide +kernel) rfl⟩
theorem ml_L_109 : Cond.methodLink RL 109 yX11_quarter ∈ TW := inTW 1272 (by decide +kernel) rfl
theorem mi_X11_quarter : Cond.instanceMethod yX11_quarter ∈ TW := inTW 1273 (by decide +kernel) rfl
theorem mv_X11_quarter : MV yX11_quarter := ⟨mi_X11_quarter, inTW 1274 (by decide +kernel) rfl⟩
theorem ml_X11_188 : Cond.methodLink RX11 188 yX11_quartersOf ∈ TW := inTW 1276 (by decide +kernel) rfl
theorem mi_X11_quartersOf : Cond.instanceMethod yX11_quartersOf ∈ TW := inTW 1278 (by decide +kernel) rfl
theorem mv_X11_quartersOf : MV yX11_quartersOf := ⟨mi_X11_quartersOf, inTW 47 (by decide +kernel) rfl⟩
theorem ml_X11_181 : Cond.methodLink RX11 181 yX11_put ∈ TW := inTW 1280 (by decide +kernel) rfl
theorem mi_X11_put : Cond.instanceMethod yX11_put ∈ TW := inTW 1282 (by decide +kernel) rfl
theorem mv_X11_put : MV yX11_put := ⟨mi_X11_put, inTW 48 (by decide +kernel) rfl⟩
theorem ml_X11_185 : Cond.methodLink RX11 185 yX11_brings ∈ TW := inTW 1284 (by decide +kernel) rfl
theorem mi_X11_brings : Cond.instanceMethod yX11_brings ∈ TW := inTW 1286 (by decide +kernel) rfl
theorem mv_X11_brings : MV yX11_brings := ⟨mi_X11_brings, inTW 49 (by decide +kernel) rfl⟩
theorem ml_L_118 : Cond.methodLink RL 118 yX11_rivals ∈ TW := inTW 1288 (by decide +kernel) rfl
theorem mi_X11_rivals : Cond.instanceMethod yX11_rivals ∈ TW := inTW 1289 (by decide +kernel) rfl
theorem mv_X11_rivals : MV yX11_rivals := ⟨mi_X11_rivals, inTW 1290 (by decide +kernel) rfl⟩
theorem ml_X11_191 : Cond.methodLink RX11 191 yX11_rivalsOf ∈ TW := inTW 1292 (by decide +kernel) rfl
theorem mi_X11_rivalsOf : Cond.instanceMethod yX11_rivalsOf ∈ TW := inTW 1294 (by decide +kernel) rfl
theorem mv_X11_rivalsOf : MV yX11_rivalsOf := ⟨mi_X11_rivalsOf, inTW 50 (by decide +kernel) rfl⟩
theorem ml_L_121 : Cond.methodLink RL 121 yX11_common ∈ TW := inTW 1296 (by decide +kernel) rfl
theorem mi_X11_common : Cond.instanceMethod yX11_common ∈ TW := inTW 1297 (by decide +kernel) rfl
theorem mv_X11_common : MV yX11_common := ⟨mi_X11_common, inTW 1298 (by decide +kernel) rfl⟩
theorem ml_X11_194 : Cond.methodLink RX11 194 yX11_up ∈ TW := inTW 1300 (by decide +kernel) rfl
theorem mi_X11_up : Cond.instanceMethod yX11_up ∈ TW := inTW 1302 (by decide +kernel) rfl
theorem mv_X11_up : MV yX11_up := ⟨mi_X11_up, inTW 51 (by decide +kernel) rfl⟩
theorem ml_L_86 : Cond.methodLink RL 86 yX11_feed ∈ TW := inTW 1304 (by decide +kernel) rfl
theorem mi_X11_feed : Cond.instanceMethod yX11_feed ∈ TW := inTW 1305 (by decide +kernel) rfl
theorem mv_X11_feed : MV yX11_feed := ⟨mi_X11_feed, inTW 1306 (by decide +kernel) rfl⟩
theorem ml_L_90 : Cond.methodLink RL 90 yX11_text ∈ TW := inTW 1308 (by decide +kernel) rfl
theorem mi_X11_text : Cond.instanceMethod yX11_text ∈ TW := inTW 1309 (by decide +kernel) rfl
theorem mv_X11_text : MV yX11_text := ⟨mi_X11_text, inTW 1310 (by decide +kernel) rfl⟩
theorem ml_X11_286 : Cond.methodLink RX11 286 yX11_readText ∈ TW := inTW 1312 (by decide +kernel) rfl
theorem mi_X11_readText : Cond.instanceMethod yX11_readText ∈ TW := inTW 1314 (by decide +kernel) rfl
theorem mv_X11_readText : MV yX11_readText := ⟨mi_X11_readText, inTW 52 (by decide +kernel) rfl⟩
theorem ml_X11_246 : Cond.methodLink RX11 246 yX11_step ∈ TW := inTW 1316 (by decide +kernel) rfl
theorem mi_X11_step : Cond.instanceMethod yX11_step ∈ TW := inTW 1318 (by decide +kernel) rfl
theorem mv_X11_step : MV yX11_step := ⟨mi_X11_step, inTW 53 (by decide +kernel) rfl⟩
theorem ml_X11_206 : Cond.methodLink RX11 206 yX11_byteAt ∈ TW := inTW 1320 (by decide +kernel) rfl
theorem mi_X11_byteAt : Cond.instanceMethod yX11_byteAt ∈ TW := inTW 1322 (by decide +kernel) rfl
theorem mv_X11_byteAt : MV yX11_byteAt := ⟨mi_X11_byteAt, inTW 54 (by decide +kernel) rfl⟩
theorem ml_X11_218 : Cond.methodLink RX11 218 yX11_isLetter ∈ TW := inTW 1324 (by decide +kernel) rfl
theorem ms_X11_isLetter : Cond.static yX11_isLetter ∈ TW := inTW 1325 (by decide +kernel) rfl
theorem ml_X11_221 : Cond.methodLink RX11 221 yX11_isDigit ∈ TW := inTW 1327 (by decide +kernel) rfl
theorem ms_X11_isDigit : Cond.static yX11_isDigit ∈ TW := inTW 1328 (by decide +kernel) rfl
theorem ml_X11_251 : Cond.methodLink RX11 251 yX11_isWord ∈ TW := inTW 1331 (by decide +kernel) rfl
theorem mi_X11_isWord : Cond.instanceMethod yX11_isWord ∈ TW := inTW 1333 (by decide +kernel) rfl
theorem mv_X11_isWord : MV yX11_isWord := ⟨mi_X11_isWord, inTW 55 (by decide +kernel) rfl⟩
theorem ml_X11_227 : Cond.methodLink RX11 227 yJ0_length_8abf5 ∈ TW := inTW 1335 (by decide +kernel) rfl
theorem ml_X11_230 : Cond.methodLink RX11 230 yJ0_charAt_5068e ∈ TW := inTW 1336 (by decide +kernel) rfl
theorem ml_X11_259 : Cond.methodLink RX11 259 yX11_wrong ∈ TW := inTW 1339 (by decide +kernel) rfl
theorem mi_X11_wrong : Cond.instanceMethod yX11_wrong ∈ TW := inTW 1341 (by decide +kernel) rfl
theorem mv_X11_wrong : MV yX11_wrong := ⟨mi_X11_wrong, inTW 56 (by decide +kernel) rfl⟩
theorem ml_X11_262 : Cond.methodLink RX11 262 yX11_readExpression ∈ TW := inTW 1343 (by decide +kernel) rfl
theorem mi_X11_readExpression : Cond.instanceMethod yX11_readExpression ∈ TW := inTW 1345 (by decide +kernel) rfl
theorem mv_X11_readExpression : MV yX11_readExpression := ⟨mi_X11_readExpression, inTW 57 (by decide +kernel) rfl⟩
theorem ml_X11_265 : Cond.methodLink RX11 265 yX11_isSign ∈ TW := inTW 1347 (by decide +kernel) rfl
theorem mi_X11_isSign : Cond.instanceMethod yX11_isSign ∈ TW := inTW 1349 (by decide +kernel) rfl
theorem mv_X11_isSign : MV yX11_isSign := ⟨mi_X11_isSign, inTW 58 (by decide +kernel) rfl⟩
theorem ml_X11_268 : Cond.methodLink RX11 268 yX11_readTest ∈ TW := inTW 1351 (by decide +kernel) rfl
theorem mi_X11_readTest : Cond.instanceMethod yX11_readTest ∈ TW := inTW 1353 (by decide +kernel) rfl
theorem mv_X11_readTest : MV yX11_readTest := ⟨mi_X11_readTest, inTW 59 (by decide +kernel) rfl⟩
theorem ml_X11_280 : Cond.methodLink RX11 280 yX11_readSum ∈ TW := inTW 1356 (by decide +kernel) rfl
theorem mi_X11_readSum : Cond.instanceMethod yX11_readSum ∈ TW := inTW 1358 (by decide +kernel) rfl
theorem mv_X11_readSum : MV yX11_readSum := ⟨mi_X11_readSum, inTW 60 (by decide +kernel) rfl⟩
theorem ml_X11_283 : Cond.methodLink RX11 283 yX11_readPart ∈ TW := inTW 1360 (by decide +kernel) rfl
theorem mi_X11_readPart : Cond.instanceMethod yX11_readPart ∈ TW := inTW 1362 (by decide +kernel) rfl
theorem mv_X11_readPart : MV yX11_readPart := ⟨mi_X11_readPart, inTW 61 (by decide +kernel) rfl⟩
theorem ml_X11_275 : Cond.methodLink RX11 275 yX11_emit ∈ TW := inTW 1364 (by decide +kernel) rfl
theorem mi_X11_emit : Cond.instanceMethod yX11_emit ∈ TW := inTW 1366 (by decide +kernel) rfl
theorem mv_X11_emit : MV yX11_emit := ⟨mi_X11_emit, inTW 62 (by decide +kernel) rfl⟩
theorem ml_L_94 : Cond.methodLink RL 94 yX11_fault ∈ TW := inTW 1370 (by decide +kernel) rfl
theorem mi_X11_fault : Cond.instanceMethod yX11_fault ∈ TW := inTW 1371 (by decide +kernel) rfl
theorem mv_X11_fault : MV yX11_fault := ⟨mi_X11_fault, inTW 1372 (by decide +kernel) rfl⟩
theorem ml_L_112 : Cond.methodLink RL 112 yX11_claim ∈ TW := inTW 1374 (by decide +kernel) rfl
theorem mi_X11_claim : Cond.instanceMethod yX11_claim ∈ TW := inTW 1375 (by decide +kernel) rfl
theorem mv_X11_claim : MV yX11_claim := ⟨mi_X11_claim, inTW 1376 (by decide +kernel) rfl⟩
theorem ml_X11_303 : Cond.methodLink RX11 303 yX11_ruled ∈ TW := inTW 1378 (by decide +kernel) rfl
theorem mi_X11_ruled : Cond.instanceMethod yX11_ruled ∈ TW := inTW 1380 (by decide +kernel) rfl
theorem mv_X11_ruled : MV yX11_ruled := ⟨mi_X11_ruled, inTW 63 (by decide +kernel) rfl⟩
theorem ml_X11_299 : Cond.methodLink RX11 299 yX11_told ∈ TW := inTW 1382 (by decide +kernel) rfl
theorem mi_X11_told : Cond.instanceMethod yX11_told ∈ TW := inTW 1384 (by decide +kernel) rfl
theorem mv_X11_told : MV yX11_told := ⟨mi_X11_told, inTW 64 (by decide +kernel) rfl⟩
theorem ml_X11_292 : Cond.methodLink RX11 292 yX11_value ∈ TW := inTW 1386 (by decide +kernel) rfl
theorem mi_X11_value : Cond.instanceMethod yX11_value ∈ TW := inTW 1388 (by decide +kernel) rfl
theorem mv_X11_value : MV yX11_value := ⟨mi_X11_value, inTW 65 (by decide +kernel) rfl⟩
theorem ml_X11_296 : Cond.methodLink RX11 296 yX11_two ∈ TW := inTW 1390 (by decide +kernel) rfl
theorem ms_X11_two : Cond.static yX11_two ∈ TW := inTW 1391 (by decide +kernel) rfl
theorem ml_L_115 : Cond.methodLink RL 115 yX11_fee ∈ TW := inTW 1393 (by decide +kernel) rfl
theorem mi_X11_fee : Cond.instanceMethod yX11_fee ∈ TW := inTW 1394 (by decide +kernel) rfl
theorem mv_X11_fee : MV yX11_fee := ⟨mi_X11_fee, inTW 1395 (by decide +kernel) rfl⟩
theorem ml_L_125 : Cond.methodLink RL 125 yX11_copy ∈ TW := inTW 1397 (by decide +kernel) rfl
theorem mi_X11_copy : Cond.instanceMethod yX11_copy ∈ TW := inTW 1398 (by decide +kernel) rfl
theorem mv_X11_copy : MV yX11_copy := ⟨mi_X11_copy, inTW 1399 (by decide +kernel) rfl⟩
theorem ml_L_128 : Cond.methodLink RL 128 yX11_of ∈ TW := inTW 1401 (by decide +kernel) rfl
theorem mi_X11_of : Cond.instanceMethod yX11_of ∈ TW := inTW 1402 (by decide +kernel) rfl
theorem mv_X11_of : MV yX11_of := ⟨mi_X11_of, inTW 1403 (by decide +kernel) rfl⟩
theorem ml_X11_312 : Cond.methodLink RX11 312 yX11_takenFrom ∈ TW := inTW 1405 (by decide +kernel) rfl
theorem mi_X11_takenFrom : Cond.instanceMethod yX11_takenFrom ∈ TW := inTW 1407 (by decide +kernel) rfl
theorem mv_X11_takenFrom : MV yX11_takenFrom := ⟨mi_X11_takenFrom, inTW 66 (by decide +kernel) rfl⟩
theorem ml_X11_309 : Cond.methodLink RX11 309 yX11_unlike ∈ TW := inTW 1409 (by decide +kernel) rfl
theorem mi_X11_unlike : Cond.instanceMethod yX11_unlike ∈ TW := inTW 1411 (by decide +kernel) rfl
theorem mv_X11_unlike : MV yX11_unlike := ⟨mi_X11_unlike, inTW 67 (by decide +kernel) rfl⟩
theorem ml_L_132 : Cond.methodLink RL 132 yX11_count ∈ TW := inTW 1413 (by decide +kernel) rfl
theorem mi_X11_count : Cond.instanceMethod yX11_count ∈ TW := inTW 1414 (by decide +kernel) rfl
theorem mv_X11_count : MV yX11_count := ⟨mi_X11_count, inTW 1415 (by decide +kernel) rfl⟩
theorem mc_X10_init : MC yX10_init cX10_init 1 none 0 := ⟨inTW 97 (by decide +kernel) rfl, inTW 69 (by decide +kernel) rfl, by decide +kernel, by decide⟩
theorem mc_X4_init : MC yX4_init cX4_init 1 none 0 := ⟨inTW 105 (by decide +kernel) rfl, inTW 70 (by decide +kernel) rfl, by decide +kernel, by decide⟩
theorem mc_X1_init : MC yX1_init cX1_init 1 none 0 := ⟨inTW 142 (by decide +kernel) rfl, inTW 71 (by decide +kernel) rfl, by decide +kernel, by decide⟩
theorem mc_X5_init : MC yX5_init cX5_init 1 none 0 := ⟨inTW 162 (by decide +kernel) rfl, inTW 72 (by decide +kernel) rfl, by decide +kernel, by decide⟩
theorem mc_X6_init : MC yX6_init cX6_init 1 none 0 := ⟨inTW 192 (by decide +kernel) rfl, inTW 73 (by decide +kernel) rfl, by decide +kernel, by decide⟩
theorem mc_X8_init : MC yX8_init cX8_init 1 none 0 := ⟨inTW 205 (by decide +kernel) rfl, inTW 74 (by decide +kernel) rfl, by decide +kernel, by decide⟩
theorem mc_X3_init : MC yX3_init cX3_init 1 none 0 := ⟨inTW 221 (by decide +kernel) rfl, inTW 75 (by decide +kernel) rfl, by decide +kernel, by decide⟩
theorem mc_X7_init : MC yX7_init cX7_init 1 none 0 := ⟨inTW 227 (by decide +kernel) rfl, inTW 76 (by decide +kernel) rfl, by decide +kernel, by decide⟩
theorem mc_X2_init : MC yX2_init cX2_init 1 none 0 := ⟨inTW 269 (by decide +kernel) rfl, inTW 77 (by decide +kernel) rfl, by decide +kernel, by decide⟩
theorem mc_X0_init : MC yX0_init cX0_init 1 none 0 := ⟨inTW 306 (by decide +kernel) rfl, inTW 78 (by decide +kernel) rfl, by decide +kernel, by decide⟩
theorem mc_X10_person : MC yX10_person cX10_person 4 (some .int) 3 := ⟨inTW 350 (by decide +kernel) rfl, inTW 69 (by decide +kernel) rfl, by decide +kernel, by decide⟩
theorem mc_X4_add : MC yX4_add cX4_add 5 (some .int) 3 := ⟨inTW 354 (by decide +kernel) rfl, inTW 70 (by decide +kernel) rfl, by decide +kernel, by decide⟩
theorem mc_X10_isYear : MC yX10_isYear cX10_isYear 1 (some .boolean) 1 := ⟨inTW 357 (by decide +kernel) rfl, inTW 69 (by decide +kernel) rfl, by decide +kernel, by decide⟩
theorem mc_X4_canDie : MC yX4_canDie cX4_canDie 2 (some .boolean) 2 := ⟨inTW 360 (by decide +kernel) rfl, inTW 70 (by decide +kernel) rfl, by decide +kernel, by decide⟩
theorem mc_X10_feed : MC yX10_feed cX10_feed 6 (some .int) 5 := ⟨inTW 364 (by decide +kernel) rfl, inTW 69 (by decide +kernel) rfl, by decide +kernel, by decide⟩
theorem mc_X8_hasRoom : MC yX8_hasRoom cX8_hasRoom 1 (some .boolean) 0 := ⟨inTW 368 (by decide +kernel) rfl, inTW 74 (by decide +kernel) rfl, by decide +kernel, by decide⟩
theorem mc_X8_put : MC yX8_put cX8_put 3 none 1 := ⟨inTW 372 (by decide +kernel) rfl, inTW 74 (by decide +kernel) rfl, by decide +kernel, by decide⟩
theorem mc_X10_fault : MC yX10_fault cX10_fault 1 (some .int) 0 := ⟨inTW 376 (by decide +kernel) rfl, inTW 69 (by decide +kernel) rfl, by decide +kernel, by decide⟩
theorem mc_X10_copy : MC yX10_copy cX10_copy 3 (some .int) 2 := ⟨inTW 380 (by decide +kernel) rfl, inTW 69 (by decide +kernel) rfl, by decide +kernel, by decide⟩
theorem mc_X0_add : MC yX0_add cX0_add 4 (some .int) 2 := ⟨inTW 384 (by decide +kernel) rfl, inTW 78 (by decide +kernel) rfl, by decide +kernel, by decide⟩
theorem mc_X10_parent : MC yX10_parent cX10_parent 5 (some .boolean) 4 := ⟨inTW 393 (by decide +kernel) rfl, inTW 69 (by decide +kernel) rfl, by decide +kernel, by decide⟩
theorem mc_X10_requirePerson : MC yX10_requirePerson cX10_requirePerson 2 none 1 := ⟨inTW 397 (by decide +kernel) rfl, inTW 69 (by decide +kernel) rfl, by decide +kernel, by decide⟩
theorem mc_X4_has : MC yX4_has cX4_has 2 (some .boolean) 1 := ⟨inTW 401 (by decide +kernel) rfl, inTW 70 (by decide +kernel) rfl, by decide +kernel, by decide⟩
theorem mc_X4_tellFather : MC yX4_tellFather cX4_tellFather 4 (some .boolean) 3 := ⟨inTW 471 (by decide +kernel) rfl, inTW 70 (by decide +kernel) rfl, by decide +kernel, by decide⟩
theorem mc_X4_isGrade : MC yX4_isGrade cX4_isGrade 1 (some .boolean) 1 := ⟨inTW 474 (by decide +kernel) rfl, inTW 70 (by decide +kernel) rfl, by decide +kernel, by decide⟩
theorem mc_X4_canBeFather : MC yX4_canBeFather cX4_canBeFather 3 (some .boolean) 2 := ⟨inTW 478 (by decide +kernel) rfl, inTW 70 (by decide +kernel) rfl, by decide +kernel, by decide⟩
theorem mc_X4_tellMother : MC yX4_tellMother cX4_tellMother 4 (some .boolean) 3 := ⟨inTW 483 (by decide +kernel) rfl, inTW 70 (by decide +kernel) rfl, by decide +kernel, by decide⟩
theorem mc_X4_canBeMother : MC yX4_canBeMother cX4_canBeMother 3 (some .boolean) 2 := ⟨inTW 487 (by decide +kernel) rfl, inTW 70 (by decide +kernel) rfl, by decide +kernel, by decide⟩
theorem mc_X10_grant : MC yX10_grant cX10_grant 4 (some .int) 3 := ⟨inTW 495 (by decide +kernel) rfl, inTW 69 (by decide +kernel) rfl, by decide +kernel, by decide⟩
theorem mc_X1_add : MC yX1_add cX1_add 5 (some .int) 3 := ⟨inTW 499 (by decide +kernel) rfl, inTW 71 (by decide +kernel) rfl, by decide +kernel, by decide⟩
theorem mc_X10_text : MC yX10_text cX10_text 3 (some .int) 2 := ⟨inTW 508 (by decide +kernel) rfl, inTW 69 (by decide +kernel) rfl, by decide +kernel, by decide⟩
theorem mc_X2_isFull : MC yX2_isFull cX2_isFull 1 (some .boolean) 0 := ⟨inTW 529 (by decide +kernel) rfl, inTW 77 (by decide +kernel) rfl, by decide +kernel, by decide⟩
theorem mc_X3_parse : MC yX3_parse cX3_parse 4 none 2 := ⟨inTW 533 (by decide +kernel) rfl, inTW 75 (by decide +kernel) rfl, by decide +kernel, by decide⟩
theorem mc_X7_scan : MC yX7_scan cX7_scan 6 none 2 := ⟨inTW 537 (by decide +kernel) rfl, inTW 76 (by decide +kernel) rfl, by decide +kernel, by decide⟩
theorem mc_J9_min_7cf53 : MC yJ9_min_7cf53 cJ9_min_7cf53 2 (some .int) 2 := ⟨inTW 540 (by decide +kernel) rfl, inTW 85 (by decide +kernel) rfl, by decide +kernel, by decide⟩
theorem mc_X7_scanOne : MC yX7_scanOne cX7_scanOne 6 (some .int) 3 := ⟨inTW 544 (by decide +kernel) rfl, inTW 76 (by decide +kernel) rfl, by decide +kernel, by decide⟩
theorem mc_X7_isLetter : MC yX7_isLetter cX7_isLetter 1 (some .boolean) 1 := ⟨inTW 547 (by decide +kernel) rfl, inTW 76 (by decide +kernel) rfl, by decide +kernel, by decide⟩
theorem mc_X7_behindLetters : MC yX7_behindLetters cX7_behindLetters 4 (some .int) 3 := ⟨inTW 550 (by decide +kernel) rfl, inTW 76 (by decide +kernel) rfl, by decide +kernel, by decide⟩
theorem mc_X7_wordToken : MC yX7_wordToken cX7_wordToken 3 (some .int) 3 := ⟨inTW 553 (by decide +kernel) rfl, inTW 76 (by decide +kernel) rfl, by decide +kernel, by decide⟩
theorem mc_X7_spells : MC yX7_spells cX7_spells 5 (some .boolean) 4 := ⟨inTW 557 (by decide +kernel) rfl, inTW 76 (by decide +kernel) rfl, by decide +kernel, by decide⟩
theorem mc_J0_length_8abf5 : MC yJ0_length_8abf5 cJ0_length_8abf5 1 (some .int) 0 := ⟨inTW 561 (by decide +kernel) rfl, inTW 86 (by decide +kernel) rfl, by decide +kernel, by decide⟩
theorem mc_J0_coder_7d493 : MC yJ0_coder_7d493 cJ0_coder_7d493 1 (some .byte) 0 := ⟨inTW 565 (by decide +kernel) rfl, inTW 86 (by decide +kernel) rfl, by decide +kernel, by decide⟩
theorem mc_J0_charAt_5068e : MC yJ0_charAt_5068e cJ0_charAt_5068e 2 (some .char) 1 := ⟨inTW 571 (by decide +kernel) rfl, inTW 86 (by decide +kernel) rfl, by decide +kernel, by decide⟩
theorem mc_J0_isLatin1_aae02 : MC yJ0_isLatin1_aae02 cJ0_isLatin1_aae02 1 (some .boolean) 0 := ⟨inTW 575 (by decide +kernel) rfl, inTW 86 (by decide +kernel) rfl, by decide +kernel, by decide⟩
theorem mc_J1_charAt_3b067 : MC yJ1_charAt_3b067 cJ1_charAt_3b067 2 (some .char) 2 := ⟨inTW 578 (by decide +kernel) rfl, inTW 87 (by decide +kernel) rfl, by decide +kernel, by decide⟩
theorem mc_J0_checkIndex_df160 : MC yJ0_checkIndex_df160 cJ0_checkIndex_df160 2 none 2 := ⟨inTW 581 (by decide +kernel) rfl, inTW 86 (by decide +kernel) rfl, by decide +kernel, by decide⟩
theorem mc_J3_checkIndex_8e157 : MC yJ3_checkIndex_8e157 cJ3_checkIndex_8e157 3 (some .int) 3 := ⟨inTW 586 (by decide +kernel) rfl, inTW 88 (by decide +kernel) rfl, by decide +kernel, by decide⟩
theorem mc_J2_charAt_3b067 : MC yJ2_charAt_3b067 cJ2_charAt_3b067 2 (some .char) 2 := ⟨inTW 589 (by decide +kernel) rfl, inTW 89 (by decide +kernel) rfl, by decide +kernel, by decide⟩
theorem mc_J2_checkIndex_2214a : MC yJ2_checkIndex_2214a cJ2_checkIndex_2214a 2 none 2 := ⟨inTW 592 (by decide +kernel) rfl, inTW 89 (by decide +kernel) rfl, by decide +kernel, by decide⟩
theorem mc_J2_length_9d52b : MC yJ2_length_9d52b cJ2_length_9d52b 1 (some .int) 1 := ⟨inTW 595 (by decide +kernel) rfl, inTW 89 (by decide +kernel) rfl, by decide +kernel, by decide⟩
theorem mc_J2_getChar_3b067 : MC yJ2_getChar_3b067 cJ2_getChar_3b067 2 (some .char) 2 := ⟨inTW 599 (by decide +kernel) rfl, inTW 89 (by decide +kernel) rfl, by decide +kernel, by decide⟩
theorem mc_X7_nameToken : MC yX7_nameToken cX7_nameToken 3 (some .int) 3 := ⟨inTW 613 (by decide +kernel) rfl, inTW 76 (by decide +kernel) rfl, by decide +kernel, by decide⟩
theorem mc_X7_put : MC yX7_put cX7_put 3 none 2 := ⟨inTW 625 (by decide +kernel) rfl, inTW 76 (by decide +kernel) rfl, by decide +kernel, by decide⟩
theorem mc_X7_isDigit : MC yX7_isDigit cX7_isDigit 1 (some .boolean) 1 := ⟨inTW 628 (by decide +kernel) rfl, inTW 76 (by decide +kernel) rfl, by decide +kernel, by decide⟩
theorem mc_X7_behindDigits : MC yX7_behindDigits cX7_behindDigits 4 (some .int) 3 := ⟨inTW 631 (by decide +kernel) rfl, inTW 76 (by decide +kernel) rfl, by decide +kernel, by decide⟩
theorem mc_X7_numberToken : MC yX7_numberToken cX7_numberToken 5 (some .int) 3 := ⟨inTW 634 (by decide +kernel) rfl, inTW 76 (by decide +kernel) rfl, by decide +kernel, by decide⟩
theorem mc_X7_isSign : MC yX7_isSign cX7_isSign 1 (some .boolean) 1 := ⟨inTW 637 (by decide +kernel) rfl, inTW 76 (by decide +kernel) rfl, by decide +kernel, by decide⟩
theorem mc_X3_readRule : MC yX3_readRule cX3_readRule 3 none 1 := ⟨inTW 641 (by decide +kernel) rfl, inTW 75 (by decide +kernel) rfl, by decide +kernel, by decide⟩
theorem mc_X3_blame : MC yX3_blame cX3_blame 2 none 1 := ⟨inTW 645 (by decide +kernel) rfl, inTW 75 (by decide +kernel) rfl, by decide +kernel, by decide⟩
theorem mc_X3_advance : MC yX3_advance cX3_advance 1 none 0 := ⟨inTW 649 (by decide +kernel) rfl, inTW 75 (by decide +kernel) rfl, by decide +kernel, by decide⟩
theorem mc_X3_readExpression : MC yX3_readExpression cX3_readExpression 4 none 1 := ⟨inTW 654 (by decide +kernel) rfl, inTW 75 (by decide +kernel) rfl, by decide +kernel, by decide⟩
theorem mc_X3_canBeginExpression : MC yX3_canBeginExpression cX3_canBeginExpression 1 (some .boolean) 0 := ⟨inTW 658 (by decide +kernel) rfl, inTW 75 (by decide +kernel) rfl, by decide +kernel, by decide⟩
theorem mc_X7_isNumber : MC yX7_isNumber cX7_isNumber 1 (some .boolean) 1 := ⟨inTW 661 (by decide +kernel) rfl, inTW 76 (by decide +kernel) rfl, by decide +kernel, by decide⟩
theorem mc_X7_isName : MC yX7_isName cX7_isName 1 (some .boolean) 1 := ⟨inTW 664 (by decide +kernel) rfl, inTW 76 (by decide +kernel) rfl, by decide +kernel, by decide⟩
theorem mc_X3_readTest : MC yX3_readTest cX3_readTest 4 none 1 := ⟨inTW 668 (by decide +kernel) rfl, inTW 75 (by decide +kernel) rfl, by decide +kernel, by decide⟩
theorem mc_X3_readSum : MC yX3_readSum cX3_readSum 4 none 1 := ⟨inTW 672 (by decide +kernel) rfl, inTW 75 (by decide +kernel) rfl, by decide +kernel, by decide⟩
theorem mc_X3_readPart : MC yX3_readPart cX3_readPart 2 none 1 := ⟨inTW 676 (by decide +kernel) rfl, inTW 75 (by decide +kernel) rfl, by decide +kernel, by decide⟩
theorem mc_X3_emit : MC yX3_emit cX3_emit 2 none 1 := ⟨inTW 680 (by decide +kernel) rfl, inTW 75 (by decide +kernel) rfl, by decide +kernel, by decide⟩
theorem mc_X7_isOtherThanName : MC yX7_isOtherThanName cX7_isOtherThanName 1 (some .boolean) 1 := ⟨inTW 683 (by decide +kernel) rfl, inTW 76 (by decide +kernel) rfl, by decide +kernel, by decide⟩
theorem mc_X3_code : MC yX3_code cX3_code 1 (some (.array .int)) 0 := ⟨inTW 687 (by decide +kernel) rfl, inTW 75 (by decide +kernel) rfl, by decide +kernel, by decide⟩
theorem mc_J7_copyOf_59c91 : MC yJ7_copyOf_59c91 cJ7_copyOf_59c91 3 (some (.array .int)) 2 := ⟨inTW 690 (by decide +kernel) rfl, inTW 90 (by decide +kernel) rfl, by decide +kernel, by decide⟩
theorem mc_X2_add : MC yX2_add cX2_add 4 (some .int) 2 := ⟨inTW 705 (by decide +kernel) rfl, inTW 77 (by decide +kernel) rfl, by decide +kernel, by decide⟩
theorem mc_X9_init : MC yX9_init cX9_init 3 none 2 := ⟨inTW 710 (by decide +kernel) rfl, inTW 92 (by decide +kernel) rfl, by decide +kernel, by decide⟩
theorem mc_X10_about : MC yX10_about cX10_about 3 (some .int) 2 := ⟨inTW 727 (by decide +kernel) rfl, inTW 69 (by decide +kernel) rfl, by decide +kernel, by decide⟩
theorem mc_X4_bornOf : MC yX4_bornOf cX4_bornOf 2 (some .int) 1 := ⟨inTW 731 (by decide +kernel) rfl, inTW 70 (by decide +kernel) rfl, by decide +kernel, by decide⟩
theorem mc_X4_toldDeathOf : MC yX4_toldDeathOf cX4_toldDeathOf 2 (some .int) 1 := ⟨inTW 735 (by decide +kernel) rfl, inTW 70 (by decide +kernel) rfl, by decide +kernel, by decide⟩
theorem mc_X4_fatherOf : MC yX4_fatherOf cX4_fatherOf 2 (some .int) 1 := ⟨inTW 739 (by decide +kernel) rfl, inTW 70 (by decide +kernel) rfl, by decide +kernel, by decide⟩
theorem mc_X4_motherOf : MC yX4_motherOf cX4_motherOf 2 (some .int) 1 := ⟨inTW 743 (by decide +kernel) rfl, inTW 70 (by decide +kernel) rfl, by decide +kernel, by decide⟩
theorem mc_X4_fatherGradeOf : MC yX4_fatherGradeOf cX4_fatherGradeOf 2 (some .int) 1 := ⟨inTW 747 (by decide +kernel) rfl, inTW 70 (by decide +kernel) rfl, by decide +kernel, by decide⟩
theorem mc_X4_motherGradeOf : MC yX4_motherGradeOf cX4_motherGradeOf 2 (some .int) 1 := ⟨inTW 751 (by decide +kernel) rfl, inTW 70 (by decide +kernel) rfl, by decide +kernel, by decide⟩
theorem mc_X4_isFemale : MC yX4_isFemale cX4_isFemale 2 (some .boolean) 1 := ⟨inTW 755 (by decide +kernel) rfl, inTW 70 (by decide +kernel) rfl, by decide +kernel, by decide⟩
theorem mc_X10_asInt : MC yX10_asInt cX10_asInt 1 (some .int) 1 := ⟨inTW 758 (by decide +kernel) rfl, inTW 69 (by decide +kernel) rfl, by decide +kernel, by decide⟩
theorem mc_X4_childrenOf : MC yX4_childrenOf cX4_childrenOf 4 (some .int) 1 := ⟨inTW 762 (by decide +kernel) rfl, inTW 70 (by decide +kernel) rfl, by decide +kernel, by decide⟩
theorem mc_X10_bears : MC yX10_bears cX10_bears 4 (some .int) 3 := ⟨inTW 770 (by decide +kernel) rfl, inTW 69 (by decide +kernel) rfl, by decide +kernel, by decide⟩
theorem mc_X5_find : MC yX5_find cX5_find 5 none 4 := ⟨inTW 774 (by decide +kernel) rfl, inTW 72 (by decide +kernel) rfl, by decide +kernel, by decide⟩
theorem mc_X5_climb : MC yX5_climb cX5_climb 9 none 4 := ⟨inTW 778 (by decide +kernel) rfl, inTW 72 (by decide +kernel) rfl, by decide +kernel, by decide⟩
theorem mc_X1_ownArms : MC yX1_ownArms cX1_ownArms 6 (some .int) 2 := ⟨inTW 782 (by decide +kernel) rfl, inTW 71 (by decide +kernel) rfl, by decide +kernel, by decide⟩
theorem mc_X4_livingLines : MC yX4_livingLines cX4_livingLines 5 (some .long) 1 := ⟨inTW 789 (by decide +kernel) rfl, inTW 70 (by decide +kernel) rfl, by decide +kernel, by decide⟩
theorem mc_X4_isLiving : MC yX4_isLiving cX4_isLiving 3 (some .boolean) 2 := ⟨inTW 793 (by decide +kernel) rfl, inTW 70 (by decide +kernel) rfl, by decide +kernel, by decide⟩
theorem mc_X4_isIn : MC yX4_isIn cX4_isIn 3 (some .boolean) 2 := ⟨inTW 796 (by decide +kernel) rfl, inTW 70 (by decide +kernel) rfl, by decide +kernel, by decide⟩
theorem mc_X5_setMarks : MC yX5_setMarks cX5_setMarks 7 none 3 := ⟨inTW 800 (by decide +kernel) rfl, inTW 72 (by decide +kernel) rfl, by decide +kernel, by decide⟩
theorem mc_X4_placeOf : MC yX4_placeOf cX4_placeOf 7 (some .int) 2 := ⟨inTW 804 (by decide +kernel) rfl, inTW 70 (by decide +kernel) rfl, by decide +kernel, by decide⟩
theorem mc_X4_isElder : MC yX4_isElder cX4_isElder 4 (some .boolean) 2 := ⟨inTW 809 (by decide +kernel) rfl, inTW 70 (by decide +kernel) rfl, by decide +kernel, by decide⟩
theorem mc_X4_isHeiress : MC yX4_isHeiress cX4_isHeiress 7 (some .boolean) 3 := ⟨inTW 817 (by decide +kernel) rfl, inTW 70 (by decide +kernel) rfl, by decide +kernel, by decide⟩
theorem mc_X5_isPlain : MC yX5_isPlain cX5_isPlain 1 (some .boolean) 0 := ⟨inTW 822 (by decide +kernel) rfl, inTW 72 (by decide +kernel) rfl, by decide +kernel, by decide⟩
theorem mc_X10_mark : MC yX10_mark cX10_mark 4 (some .int) 3 := ⟨inTW 830 (by decide +kernel) rfl, inTW 69 (by decide +kernel) rfl, by decide +kernel, by decide⟩
theorem mc_X5_markAt : MC yX5_markAt cX5_markAt 2 (some .int) 1 := ⟨inTW 835 (by decide +kernel) rfl, inTW 72 (by decide +kernel) rfl, by decide +kernel, by decide⟩
theorem mc_X10_head : MC yX10_head cX10_head 3 (some .int) 2 := ⟨inTW 842 (by decide +kernel) rfl, inTW 69 (by decide +kernel) rfl, by decide +kernel, by decide⟩
theorem mc_X4_headOf : MC yX4_headOf cX4_headOf 7 (some .int) 2 := ⟨inTW 846 (by decide +kernel) rfl, inTW 70 (by decide +kernel) rfl, by decide +kernel, by decide⟩
theorem mc_X4_heirOf : MC yX4_heirOf cX4_heirOf 7 (some .int) 2 := ⟨inTW 851 (by decide +kernel) rfl, inTW 70 (by decide +kernel) rfl, by decide +kernel, by decide⟩
theorem mc_X10_quarter : MC yX10_quarter cX10_quarter 5 (some .int) 3 := ⟨inTW 858 (by decide +kernel) rfl, inTW 69 (by decide +kernel) rfl, by decide +kernel, by decide⟩
theorem mc_X6_fill : MC yX6_fill cX6_fill 11 none 4 := ⟨inTW 862 (by decide +kernel) rfl, inTW 73 (by decide +kernel) rfl, by decide +kernel, by decide⟩
theorem mc_X4_forebears : MC yX4_forebears cX4_forebears 5 (some .long) 1 := ⟨inTW 867 (by decide +kernel) rfl, inTW 70 (by decide +kernel) rfl, by decide +kernel, by decide⟩
theorem mc_X6_addRow : MC yX6_addRow cX6_addRow 5 none 2 := ⟨inTW 873 (by decide +kernel) rfl, inTW 73 (by decide +kernel) rfl, by decide +kernel, by decide⟩
theorem mc_X6_sizeOf : MC yX6_sizeOf cX6_sizeOf 2 (some .int) 1 := ⟨inTW 877 (by decide +kernel) rfl, inTW 73 (by decide +kernel) rfl, by decide +kernel, by decide⟩
theorem mc_X6_armsAt : MC yX6_armsAt cX6_armsAt 3 (some .int) 2 := ⟨inTW 881 (by decide +kernel) rfl, inTW 73 (by decide +kernel) rfl, by decide +kernel, by decide⟩
theorem mc_X6_isPlace : MC yX6_isPlace cX6_isPlace 2 (some .boolean) 2 := ⟨inTW 884 (by decide +kernel) rfl, inTW 73 (by decide +kernel) rfl, by decide +kernel, by decide⟩
theorem mc_X6_addArms : MC yX6_addArms cX6_addArms 5 none 2 := ⟨inTW 888 (by decide +kernel) rfl, inTW 73 (by decide +kernel) rfl, by decide +kernel, by decide⟩
theorem mc_X4_bringsQuarters : MC yX4_bringsQuarters cX4_bringsQuarters 6 (some .boolean) 3 := ⟨inTW 894 (by decide +kernel) rfl, inTW 70 (by decide +kernel) rfl, by decide +kernel, by decide⟩
theorem mc_X10_claim : MC yX10_claim cX10_claim 4 (some .int) 3 := ⟨inTW 905 (by decide +kernel) rfl, inTW 69 (by decide +kernel) rfl, by decide +kernel, by decide⟩
theorem mc_X10_judge : MC yX10_judge cX10_judge 3 none 2 := ⟨inTW 909 (by decide +kernel) rfl, inTW 69 (by decide +kernel) rfl, by decide +kernel, by decide⟩
theorem mc_X2_setName : MC yX2_setName cX2_setName 4 none 2 := ⟨inTW 913 (by decide +kernel) rfl, inTW 77 (by decide +kernel) rfl, by decide +kernel, by decide⟩
theorem mc_X10_countRivals : MC yX10_countRivals cX10_countRivals 4 (some .int) 1 := ⟨inTW 917 (by decide +kernel) rfl, inTW 69 (by decide +kernel) rfl, by decide +kernel, by decide⟩
theorem mc_X2_judge : MC yX2_judge cX2_judge 4 none 1 := ⟨inTW 922 (by decide +kernel) rfl, inTW 77 (by decide +kernel) rfl, by decide +kernel, by decide⟩
theorem mc_X2_inForce : MC yX2_inForce cX2_inForce 6 (some (.object "ArmsBook$Text")) 1 := ⟨inTW 926 (by decide +kernel) rfl, inTW 77 (by decide +kernel) rfl, by decide +kernel, by decide⟩
theorem mc_X2_work : MC yX2_work cX2_work 4 none 1 := ⟨inTW 930 (by decide +kernel) rfl, inTW 77 (by decide +kernel) rfl, by decide +kernel, by decide⟩
theorem mc_X2_push : MC yX2_push cX2_push 2 none 1 := ⟨inTW 935 (by decide +kernel) rfl, inTW 77 (by decide +kernel) rfl, by decide +kernel, by decide⟩
theorem mc_X2_nameValue : MC yX2_nameValue cX2_nameValue 3 (some .int) 1 := ⟨inTW 940 (by decide +kernel) rfl, inTW 77 (by decide +kernel) rfl, by decide +kernel, by decide⟩
theorem mc_X2_pop : MC yX2_pop cX2_pop 1 (some .int) 0 := ⟨inTW 944 (by decide +kernel) rfl, inTW 77 (by decide +kernel) rfl, by decide +kernel, by decide⟩
theorem mc_X2_joined : MC yX2_joined cX2_joined 3 (some .int) 3 := ⟨inTW 948 (by decide +kernel) rfl, inTW 77 (by decide +kernel) rfl, by decide +kernel, by decide⟩
theorem mc_X10_fee : MC yX10_fee cX10_fee 3 (some .int) 2 := ⟨inTW 955 (by decide +kernel) rfl, inTW 69 (by decide +kernel) rfl, by decide +kernel, by decide⟩
theorem mc_X10_rivals : MC yX10_rivals cX10_rivals 3 (some .int) 2 := ⟨inTW 962 (by decide +kernel) rfl, inTW 69 (by decide +kernel) rfl, by decide +kernel, by decide⟩
theorem mc_X10_common : MC yX10_common cX10_common 6 (some .int) 2 := ⟨inTW 969 (by decide +kernel) rfl, inTW 69 (by decide +kernel) rfl, by decide +kernel, by decide⟩
theorem mc_X10_of : MC yX10_of cX10_of 3 (some .int) 2 := ⟨inTW 977 (by decide +kernel) rfl, inTW 69 (by decide +kernel) rfl, by decide +kernel, by decide⟩
theorem mc_X0_has : MC yX0_has cX0_has 2 (some .boolean) 1 := ⟨inTW 981 (by decide +kernel) rfl, inTW 78 (by decide +kernel) rfl, by decide +kernel, by decide⟩
theorem mc_X0_sourceOf : MC yX0_sourceOf cX0_sourceOf 7 (some .int) 1 := ⟨inTW 986 (by decide +kernel) rfl, inTW 78 (by decide +kernel) rfl, by decide +kernel, by decide⟩
theorem mc_X0_changes : MC yX0_changes cX0_changes 6 (some .int) 2 := ⟨inTW 990 (by decide +kernel) rfl, inTW 78 (by decide +kernel) rfl, by decide +kernel, by decide⟩
theorem mc_X0_rowOf : MC yX0_rowOf cX0_rowOf 2 (some .int) 1 := ⟨inTW 994 (by decide +kernel) rfl, inTW 78 (by decide +kernel) rfl, by decide +kernel, by decide⟩
theorem mc_X0_yearOf : MC yX0_yearOf cX0_yearOf 2 (some .int) 1 := ⟨inTW 999 (by decide +kernel) rfl, inTW 78 (by decide +kernel) rfl, by decide +kernel, by decide⟩
theorem mc_X0_changesOf : MC yX0_changesOf cX0_changesOf 3 (some .int) 1 := ⟨inTW 1003 (by decide +kernel) rfl, inTW 78 (by decide +kernel) rfl, by decide +kernel, by decide⟩
theorem mc_X0_driftOf : MC yX0_driftOf cX0_driftOf 6 (some .int) 1 := ⟨inTW 1008 (by decide +kernel) rfl, inTW 78 (by decide +kernel) rfl, by decide +kernel, by decide⟩
theorem mc_X0_originalOf : MC yX0_originalOf cX0_originalOf 5 (some .int) 1 := ⟨inTW 1012 (by decide +kernel) rfl, inTW 78 (by decide +kernel) rfl, by decide +kernel, by decide⟩
theorem mc_X0_takenFrom : MC yX0_takenFrom cX0_takenFrom 4 (some .int) 1 := ⟨inTW 1016 (by decide +kernel) rfl, inTW 78 (by decide +kernel) rfl, by decide +kernel, by decide⟩
theorem mc_X10_count : MC yX10_count cX10_count 2 (some .int) 1 := ⟨inTW 1024 (by decide +kernel) rfl, inTW 69 (by decide +kernel) rfl, by decide +kernel, by decide⟩
theorem mc_X11_init : MC yX11_init cX11_init 1 none 0 := ⟨inTW 1030 (by decide +kernel) rfl, inTW 79 (by decide +kernel) rfl, by decide +kernel, by decide⟩
theorem mc_X11_thrown : MC yX11_thrown cX11_thrown 1 (some .int) 0 := ⟨inTW 1175 (by decide +kernel) rfl, inTW 79 (by decide +kernel) rfl, by decide +kernel, by decide⟩
theorem mc_X11_person : MC yX11_person cX11_person 4 (some .int) 3 := ⟨inTW 1179 (by decide +kernel) rfl, inTW 79 (by decide +kernel) rfl, by decide +kernel, by decide⟩
theorem mc_X11_isYear : MC yX11_isYear cX11_isYear 1 (some .boolean) 1 := ⟨inTW 1182 (by decide +kernel) rfl, inTW 79 (by decide +kernel) rfl, by decide +kernel, by decide⟩
theorem mc_X11_parent : MC yX11_parent cX11_parent 7 (some .boolean) 4 := ⟨inTW 1186 (by decide +kernel) rfl, inTW 79 (by decide +kernel) rfl, by decide +kernel, by decide⟩
theorem mc_X11_is : MC yX11_is cX11_is 2 (some .boolean) 1 := ⟨inTW 1190 (by decide +kernel) rfl, inTW 79 (by decide +kernel) rfl, by decide +kernel, by decide⟩
theorem mc_X11_fail : MC yX11_fail cX11_fail 1 (some .int) 0 := ⟨inTW 1194 (by decide +kernel) rfl, inTW 79 (by decide +kernel) rfl, by decide +kernel, by decide⟩
theorem mc_X11_end : MC yX11_end cX11_end 2 (some .int) 1 := ⟨inTW 1198 (by decide +kernel) rfl, inTW 79 (by decide +kernel) rfl, by decide +kernel, by decide⟩
theorem mc_X11_lives : MC yX11_lives cX11_lives 3 (some .boolean) 2 := ⟨inTW 1202 (by decide +kernel) rfl, inTW 79 (by decide +kernel) rfl, by decide +kernel, by decide⟩
theorem mc_X11_grant : MC yX11_grant cX11_grant 4 (some .int) 3 := ⟨inTW 1206 (by decide +kernel) rfl, inTW 79 (by decide +kernel) rfl, by decide +kernel, by decide⟩
theorem mc_X11_about : MC yX11_about cX11_about 5 (some .int) 2 := ⟨inTW 1210 (by decide +kernel) rfl, inTW 79 (by decide +kernel) rfl, by decide +kernel, by decide⟩
theorem mc_X11_isChild : MC yX11_isChild cX11_isChild 3 (some .boolean) 2 := ⟨inTW 1214 (by decide +kernel) rfl, inTW 79 (by decide +kernel) rfl, by decide +kernel, by decide⟩
theorem mc_X11_bears : MC yX11_bears cX11_bears 5 (some .int) 3 := ⟨inTW 1218 (by decide +kernel) rfl, inTW 79 (by decide +kernel) rfl, by decide +kernel, by decide⟩
theorem mc_X11_rootOf : MC yX11_rootOf cX11_rootOf 4 (some .int) 2 := ⟨inTW 1222 (by decide +kernel) rfl, inTW 79 (by decide +kernel) rfl, by decide +kernel, by decide⟩
theorem mc_X11_own : MC yX11_own cX11_own 5 (some .int) 2 := ⟨inTW 1226 (by decide +kernel) rfl, inTW 79 (by decide +kernel) rfl, by decide +kernel, by decide⟩
theorem mc_X11_armsOf : MC yX11_armsOf cX11_armsOf 4 (some .int) 2 := ⟨inTW 1230 (by decide +kernel) rfl, inTW 79 (by decide +kernel) rfl, by decide +kernel, by decide⟩
theorem mc_X11_stepsOf : MC yX11_stepsOf cX11_stepsOf 6 (some .int) 2 := ⟨inTW 1234 (by decide +kernel) rfl, inTW 79 (by decide +kernel) rfl, by decide +kernel, by decide⟩
theorem mc_X11_gradeOf : MC yX11_gradeOf cX11_gradeOf 6 (some .int) 2 := ⟨inTW 1238 (by decide +kernel) rfl, inTW 79 (by decide +kernel) rfl, by decide +kernel, by decide⟩
theorem mc_X11_lines : MC yX11_lines cX11_lines 5 none 1 := ⟨inTW 1243 (by decide +kernel) rfl, inTW 79 (by decide +kernel) rfl, by decide +kernel, by decide⟩
theorem mc_X11_isHeiress : MC yX11_isHeiress cX11_isHeiress 5 (some .boolean) 2 := ⟨inTW 1247 (by decide +kernel) rfl, inTW 79 (by decide +kernel) rfl, by decide +kernel, by decide⟩
theorem mc_X11_marksAbove : MC yX11_marksAbove cX11_marksAbove 6 (some .int) 2 := ⟨inTW 1251 (by decide +kernel) rfl, inTW 79 (by decide +kernel) rfl, by decide +kernel, by decide⟩
theorem mc_X11_marksOf : MC yX11_marksOf cX11_marksOf 6 (some .int) 2 := ⟨inTW 1255 (by decide +kernel) rfl, inTW 79 (by decide +kernel) rfl, by decide +kernel, by decide⟩
theorem mc_X11_placeOf : MC yX11_placeOf cX11_placeOf 5 (some .int) 2 := ⟨inTW 1259 (by decide +kernel) rfl, inTW 79 (by decide +kernel) rfl, by decide +kernel, by decide⟩
theorem mc_X11_isAhead : MC yX11_isAhead cX11_isAhead 3 (some .boolean) 2 := ⟨inTW 1263 (by decide +kernel) rfl, inTW 79 (by decide +kernel) rfl, by decide +kernel, by decide⟩
theorem mc_X11_mark : MC yX11_mark cX11_mark 4 (some .int) 3 := ⟨inTW 1267 (by decide +kernel) rfl, inTW 79 (by decide +kernel) rfl, by decide +kernel, by decide⟩
theorem mc_X11_head : MC yX11_head cX11_head 6 (some .int) 2 := ⟨inTW 1271 (by decide +kernel) rfl, inTW 79 (by decide +kernel) rfl, by decide +kernel, by decide⟩
theorem mc_X11_quarter : MC yX11_quarter cX11_quarter 5 (some .int) 3 := ⟨inTW 1275 (by decide +kernel) rfl, inTW 79 (by decide +kernel) rfl, by decide +kernel, by decide⟩
theorem mc_X11_quartersOf : MC yX11_quartersOf cX11_quartersOf 8 (some .int) 2 := ⟨inTW 1279 (by decide +kernel) rfl, inTW 79 (by decide +kernel) rfl, by decide +kernel, by decide⟩
theorem mc_X11_put : MC yX11_put cX11_put 5 none 2 := ⟨inTW 1283 (by decide +kernel) rfl, inTW 79 (by decide +kernel) rfl, by decide +kernel, by decide⟩
theorem mc_X11_brings : MC yX11_brings cX11_brings 3 (some .boolean) 2 := ⟨inTW 1287 (by decide +kernel) rfl, inTW 79 (by decide +kernel) rfl, by decide +kernel, by decide⟩
theorem mc_X11_rivals : MC yX11_rivals cX11_rivals 3 (some .int) 2 := ⟨inTW 1291 (by decide +kernel) rfl, inTW 79 (by decide +kernel) rfl, by decide +kernel, by decide⟩
theorem mc_X11_rivalsOf : MC yX11_rivalsOf cX11_rivalsOf 6 (some .int) 2 := ⟨inTW 1295 (by decide +kernel) rfl, inTW 79 (by decide +kernel) rfl, by decide +kernel, by decide⟩
theorem mc_X11_common : MC yX11_common cX11_common 5 (some .int) 2 := ⟨inTW 1299 (by decide +kernel) rfl, inTW 79 (by decide +kernel) rfl, by decide +kernel, by decide⟩
theorem mc_X11_up : MC yX11_up cX11_up 3 none 1 := ⟨inTW 1303 (by decide +kernel) rfl, inTW 79 (by decide +kernel) rfl, by decide +kernel, by decide⟩
theorem mc_X11_feed : MC yX11_feed cX11_feed 8 (some .int) 5 := ⟨inTW 1307 (by decide +kernel) rfl, inTW 79 (by decide +kernel) rfl, by decide +kernel, by decide⟩
theorem mc_X11_text : MC yX11_text cX11_text 3 (some .int) 2 := ⟨inTW 1311 (by decide +kernel) rfl, inTW 79 (by decide +kernel) rfl, by decide +kernel, by decide⟩
theorem mc_X11_readText : MC yX11_readText cX11_readText 3 none 0 := ⟨inTW 1315 (by decide +kernel) rfl, inTW 79 (by decide +kernel) rfl, by decide +kernel, by decide⟩
theorem mc_X11_step : MC yX11_step cX11_step 3 none 0 := ⟨inTW 1319 (by decide +kernel) rfl, inTW 79 (by decide +kernel) rfl, by decide +kernel, by decide⟩
theorem mc_X11_byteAt : MC yX11_byteAt cX11_byteAt 2 (some .int) 1 := ⟨inTW 1323 (by decide +kernel) rfl, inTW 79 (by decide +kernel) rfl, by decide +kernel, by decide⟩
theorem mc_X11_isLetter : MC yX11_isLetter cX11_isLetter 1 (some .boolean) 1 := ⟨inTW 1326 (by decide +kernel) rfl, inTW 79 (by decide +kernel) rfl, by decide +kernel, by decide⟩
theorem mc_X11_isDigit : MC yX11_isDigit cX11_isDigit 1 (some .boolean) 1 := ⟨inTW 1329 (by decide +kernel) rfl, inTW 79 (by decide +kernel) rfl, by decide +kernel, by decide⟩
theorem mc_X11_isWord : MC yX11_isWord cX11_isWord 4 (some .boolean) 1 := ⟨inTW 1334 (by decide +kernel) rfl, inTW 79 (by decide +kernel) rfl, by decide +kernel, by decide⟩
theorem mc_X11_wrong : MC yX11_wrong cX11_wrong 2 none 1 := ⟨inTW 1342 (by decide +kernel) rfl, inTW 79 (by decide +kernel) rfl, by decide +kernel, by decide⟩
theorem mc_X11_readExpression : MC yX11_readExpression cX11_readExpression 4 none 1 := ⟨inTW 1346 (by decide +kernel) rfl, inTW 79 (by decide +kernel) rfl, by decide +kernel, by decide⟩
theorem mc_X11_isSign : MC yX11_isSign cX11_isSign 2 (some .boolean) 1 := ⟨inTW 1350 (by decide +kernel) rfl, inTW 79 (by decide +kernel) rfl, by decide +kernel, by decide⟩
theorem mc_X11_readTest : MC yX11_readTest cX11_readTest 4 none 1 := ⟨inTW 1354 (by decide +kernel) rfl, inTW 79 (by decide +kernel) rfl, by decide +kernel, by decide⟩
theorem mc_X11_readSum : MC yX11_readSum cX11_readSum 3 none 1 := ⟨inTW 1359 (by decide +kernel) rfl, inTW 79 (by decide +kernel) rfl, by decide +kernel, by decide⟩
theorem mc_X11_readPart : MC yX11_readPart cX11_readPart 4 none 1 := ⟨inTW 1363 (by decide +kernel) rfl, inTW 79 (by decide +kernel) rfl, by decide +kernel, by decide⟩
theorem mc_X11_emit : MC yX11_emit cX11_emit 2 none 1 := ⟨inTW 1367 (by decide +kernel) rfl, inTW 79 (by decide +kernel) rfl, by decide +kernel, by decide⟩
theorem mc_X11_fault : MC yX11_fault cX11_fault 1 (some .int) 0 := ⟨inTW 1373 (by decide +kernel) rfl, inTW 79 (by decide +kernel) rfl, by decide +kernel, by decide⟩
theorem mc_X11_claim : MC yX11_claim cX11_claim 5 (some .int) 3 := ⟨inTW 1377 (by decide +kernel) rfl, inTW 79 (by decide +kernel) rfl, by decide +kernel, by decide⟩
theorem mc_X11_ruled : MC yX11_ruled cX11_ruled 9 (some .int) 3 := ⟨inTW 1381 (by decide +kernel) rfl, inTW 79 (by decide +kernel) rfl, by decide +kernel, by decide⟩
theorem mc_X11_told : MC yX11_told cX11_told 7 (some .int) 4 := ⟨inTW 1385 (by decide +kernel) rfl, inTW 79 (by decide +kernel) rfl, by decide +kernel, by decide⟩
theorem mc_X11_value : MC yX11_value cX11_value 4 (some .int) 3 := ⟨inTW 1389 (by decide +kernel) rfl, inTW 79 (by decide +kernel) rfl, by decide +kernel, by decide⟩
theorem mc_X11_two : MC yX11_two cX11_two 3 (some .int) 3 := ⟨inTW 1392 (by decide +kernel) rfl, inTW 79 (by decide +kernel) rfl, by decide +kernel, by decide⟩
theorem mc_X11_fee : MC yX11_fee cX11_fee 3 (some .int) 2 := ⟨inTW 1396 (by decide +kernel) rfl, inTW 79 (by decide +kernel) rfl, by decide +kernel, by decide⟩
theorem mc_X11_copy : MC yX11_copy cX11_copy 3 (some .int) 2 := ⟨inTW 1400 (by decide +kernel) rfl, inTW 79 (by decide +kernel) rfl, by decide +kernel, by decide⟩
theorem mc_X11_of : MC yX11_of cX11_of 8 (some .int) 2 := ⟨inTW 1404 (by decide +kernel) rfl, inTW 79 (by decide +kernel) rfl, by decide +kernel, by decide⟩
theorem mc_X11_takenFrom : MC yX11_takenFrom cX11_takenFrom 5 (some .int) 1 := ⟨inTW 1408 (by decide +kernel) rfl, inTW 79 (by decide +kernel) rfl, by decide +kernel, by decide⟩
theorem mc_X11_unlike : MC yX11_unlike cX11_unlike 5 (some .int) 2 := ⟨inTW 1412 (by decide +kernel) rfl, inTW 79 (by decide +kernel) rfl, by decide +kernel, by decide⟩
theorem mc_X11_count : MC yX11_count cX11_count 2 (some .int) 1 := ⟨inTW 1416 (by decide +kernel) rfl, inTW 79 (by decide +kernel) rfl, by decide +kernel, by decide⟩
end
