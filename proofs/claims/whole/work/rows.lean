section
-- ===== PART A: goes FIRST, ahead of the names: the tables' words, and 'selects' of the private methods out of them =====
/-- a private method of a class that the tables say can be made, by its rows of tables_1 -/
def lw_okq (q : MethodName × Nat) : Prop := (q.1.cls ≠ "java/lang/invoke/MethodHandle" ∧ q.1.cls ≠ "java/lang/invoke/VarHandle") ∧ Cond.instantiable q.1.cls q.2 ∈ tables_1 ∧ Cond.privateMethod q.1 ∈ tables_1 ∧ Cond.instanceMethod q.1 ∈ tables_1
theorem lw_p0 : lw_okq (⟨"ComplaintDesk", "closedLetters", "()I"⟩, 11) := ⟨⟨by decide +kernel, by decide +kernel⟩, List.mem_of_getElem? (i := 33) (by decide +kernel), List.mem_of_getElem? (i := 192) (by decide +kernel), List.mem_of_getElem? (i := 193) (by decide +kernel)⟩
theorem lw_p1 : lw_okq (⟨"ComplaintDesk", "pointsCounted", "(I)I"⟩, 11) := ⟨⟨by decide +kernel, by decide +kernel⟩, List.mem_of_getElem? (i := 33) (by decide +kernel), List.mem_of_getElem? (i := 222) (by decide +kernel), List.mem_of_getElem? (i := 223) (by decide +kernel)⟩
theorem lw_p2 : lw_okq (⟨"ComplaintDesk", "causeAt", "(I)LComplaintDesk$Cause;"⟩, 11) := ⟨⟨by decide +kernel, by decide +kernel⟩, List.mem_of_getElem? (i := 33) (by decide +kernel), List.mem_of_getElem? (i := 245) (by decide +kernel), List.mem_of_getElem? (i := 246) (by decide +kernel)⟩
theorem lw_p3 : lw_okq (⟨"java/lang/Throwable", "fillInStackTrace", "(I)Ljava/lang/Throwable;"⟩, 6) := ⟨⟨by decide +kernel, by decide +kernel⟩, List.mem_of_getElem? (i := 288) (by decide +kernel), List.mem_of_getElem? (i := 286) (by decide +kernel), List.mem_of_getElem? (i := 287) (by decide +kernel)⟩
theorem lw_p4 : lw_okq (⟨"ComplaintDesk", "readPattern", "()LComplaintDesk$Pattern;"⟩, 11) := ⟨⟨by decide +kernel, by decide +kernel⟩, List.mem_of_getElem? (i := 33) (by decide +kernel), List.mem_of_getElem? (i := 338) (by decide +kernel), List.mem_of_getElem? (i := 339) (by decide +kernel)⟩
theorem lw_p5 : lw_okq (⟨"ComplaintDesk$Tape", "byteAt", "(I)I"⟩, 5) := ⟨⟨by decide +kernel, by decide +kernel⟩, List.mem_of_getElem? (i := 41) (by decide +kernel), List.mem_of_getElem? (i := 357) (by decide +kernel), List.mem_of_getElem? (i := 358) (by decide +kernel)⟩
theorem lw_p6 : lw_okq (⟨"ComplaintDesk$Tape", "isLetterAt", "(I)Z"⟩, 5) := ⟨⟨by decide +kernel, by decide +kernel⟩, List.mem_of_getElem? (i := 41) (by decide +kernel), List.mem_of_getElem? (i := 361) (by decide +kernel), List.mem_of_getElem? (i := 362) (by decide +kernel)⟩
theorem lw_p7 : lw_okq (⟨"java/util/ArrayList", "add", "(Ljava/lang/Object;[Ljava/lang/Object;I)V"⟩, 3) := ⟨⟨by decide +kernel, by decide +kernel⟩, List.mem_of_getElem? (i := 100) (by decide +kernel), List.mem_of_getElem? (i := 475) (by decide +kernel), List.mem_of_getElem? (i := 476) (by decide +kernel)⟩
theorem lw_p8 : lw_okq (⟨"java/util/ArrayList", "grow", "()[Ljava/lang/Object;"⟩, 3) := ⟨⟨by decide +kernel, by decide +kernel⟩, List.mem_of_getElem? (i := 100) (by decide +kernel), List.mem_of_getElem? (i := 479) (by decide +kernel), List.mem_of_getElem? (i := 480) (by decide +kernel)⟩
theorem lw_p9 : lw_okq (⟨"java/util/ArrayList", "grow", "(I)[Ljava/lang/Object;"⟩, 3) := ⟨⟨by decide +kernel, by decide +kernel⟩, List.mem_of_getElem? (i := 100) (by decide +kernel), List.mem_of_getElem? (i := 483) (by decide +kernel), List.mem_of_getElem? (i := 484) (by decide +kernel)⟩
theorem lw_p10 : lw_okq (⟨"ComplaintDesk", "sortAnew", "()I"⟩, 11) := ⟨⟨by decide +kernel, by decide +kernel⟩, List.mem_of_getElem? (i := 33) (by decide +kernel), List.mem_of_getElem? (i := 534) (by decide +kernel), List.mem_of_getElem? (i := 535) (by decide +kernel)⟩
theorem lw_p11 : lw_okq (⟨"ComplaintDesk", "causeOf", "(LComplaintDesk$Point;)LComplaintDesk$Cause;"⟩, 11) := ⟨⟨by decide +kernel, by decide +kernel⟩, List.mem_of_getElem? (i := 33) (by decide +kernel), List.mem_of_getElem? (i := 539) (by decide +kernel), List.mem_of_getElem? (i := 540) (by decide +kernel)⟩
theorem lw_p12 : lw_okq (⟨"ComplaintDesk", "work", "(I)V"⟩, 11) := ⟨⟨by decide +kernel, by decide +kernel⟩, List.mem_of_getElem? (i := 33) (by decide +kernel), List.mem_of_getElem? (i := 867) (by decide +kernel), List.mem_of_getElem? (i := 868) (by decide +kernel)⟩
theorem lw_p13 : lw_okq (⟨"ComplaintDesk", "firstWaiting", "(I)LComplaintDesk$Point;"⟩, 11) := ⟨⟨by decide +kernel, by decide +kernel⟩, List.mem_of_getElem? (i := 33) (by decide +kernel), List.mem_of_getElem? (i := 871) (by decide +kernel), List.mem_of_getElem? (i := 872) (by decide +kernel)⟩
theorem lw_p14 : lw_okq (⟨"ComplaintDesk$Point", "isThreat", "()Z"⟩, 4) := ⟨⟨by decide +kernel, by decide +kernel⟩, List.mem_of_getElem? (i := 596) (by decide +kernel), List.mem_of_getElem? (i := 883) (by decide +kernel), List.mem_of_getElem? (i := 884) (by decide +kernel)⟩
theorem lw_p15 : lw_okq (⟨"ComplaintDesk", "letterAt", "(I)LComplaintDesk$Letter;"⟩, 11) := ⟨⟨by decide +kernel, by decide +kernel⟩, List.mem_of_getElem? (i := 33) (by decide +kernel), List.mem_of_getElem? (i := 894) (by decide +kernel), List.mem_of_getElem? (i := 895) (by decide +kernel)⟩
def lw_privs_1 : List (MethodName × Nat) := [(⟨"ComplaintDesk", "closedLetters", "()I"⟩, 11), (⟨"ComplaintDesk", "pointsCounted", "(I)I"⟩, 11), (⟨"ComplaintDesk", "causeAt", "(I)LComplaintDesk$Cause;"⟩, 11), (⟨"java/lang/Throwable", "fillInStackTrace", "(I)Ljava/lang/Throwable;"⟩, 6), (⟨"ComplaintDesk", "readPattern", "()LComplaintDesk$Pattern;"⟩, 11), (⟨"ComplaintDesk$Tape", "byteAt", "(I)I"⟩, 5), (⟨"ComplaintDesk$Tape", "isLetterAt", "(I)Z"⟩, 5), (⟨"java/util/ArrayList", "add", "(Ljava/lang/Object;[Ljava/lang/Object;I)V"⟩, 3), (⟨"java/util/ArrayList", "grow", "()[Ljava/lang/Object;"⟩, 3), (⟨"java/util/ArrayList", "grow", "(I)[Ljava/lang/Object;"⟩, 3), (⟨"ComplaintDesk", "sortAnew", "()I"⟩, 11), (⟨"ComplaintDesk", "causeOf", "(LComplaintDesk$Point;)LComplaintDesk$Cause;"⟩, 11), (⟨"ComplaintDesk", "work", "(I)V"⟩, 11), (⟨"ComplaintDesk", "firstWaiting", "(I)LComplaintDesk$Point;"⟩, 11), (⟨"ComplaintDesk$Point", "isThreat", "()Z"⟩, 4), (⟨"ComplaintDesk", "letterAt", "(I)LComplaintDesk$Letter;"⟩, 11)]
theorem lw_r1 : ∀ q ∈ lw_privs_1, lw_okq q := List.forall_mem_cons.mpr ⟨lw_p0, List.forall_mem_cons.mpr ⟨lw_p1, List.forall_mem_cons.mpr ⟨lw_p2, List.forall_mem_cons.mpr ⟨lw_p3, List.forall_mem_cons.mpr ⟨lw_p4, List.forall_mem_cons.mpr ⟨lw_p5, List.forall_mem_cons.mpr ⟨lw_p6, List.forall_mem_cons.mpr ⟨lw_p7, List.forall_mem_cons.mpr ⟨lw_p8, List.forall_mem_cons.mpr ⟨lw_p9, List.forall_mem_cons.mpr ⟨lw_p10, List.forall_mem_cons.mpr ⟨lw_p11, List.forall_mem_cons.mpr ⟨lw_p12, List.forall_mem_cons.mpr ⟨lw_p13, List.forall_mem_cons.mpr ⟨lw_p14, List.forall_mem_cons.mpr ⟨lw_p15, fun _ h => absurd h List.not_mem_nil⟩⟩⟩⟩⟩⟩⟩⟩⟩⟩⟩⟩⟩⟩⟩⟩
theorem lw_p16 : lw_okq (⟨"ComplaintDesk", "matter", "(ILComplaintDesk$Cause;)I"⟩, 11) := ⟨⟨by decide +kernel, by decide +kernel⟩, List.mem_of_getElem? (i := 33) (by decide +kernel), List.mem_of_getElem? (i := 914) (by decide +kernel), List.mem_of_getElem? (i := 915) (by decide +kernel)⟩
theorem lw_p17 : lw_okq (⟨"ComplaintDesk", "fewestTemplates", "(I)I"⟩, 11) := ⟨⟨by decide +kernel, by decide +kernel⟩, List.mem_of_getElem? (i := 33) (by decide +kernel), List.mem_of_getElem? (i := 945) (by decide +kernel), List.mem_of_getElem? (i := 946) (by decide +kernel)⟩
theorem lw_p18 : lw_okq (⟨"ComplaintDesk", "causesOfSet", "(I)I"⟩, 11) := ⟨⟨by decide +kernel, by decide +kernel⟩, List.mem_of_getElem? (i := 33) (by decide +kernel), List.mem_of_getElem? (i := 955) (by decide +kernel), List.mem_of_getElem? (i := 956) (by decide +kernel)⟩
theorem lw_p19 : lw_okq (⟨"ComplaintDesk", "fillDueInDays", "(I)I"⟩, 11) := ⟨⟨by decide +kernel, by decide +kernel⟩, List.mem_of_getElem? (i := 33) (by decide +kernel), List.mem_of_getElem? (i := 967) (by decide +kernel), List.mem_of_getElem? (i := 968) (by decide +kernel)⟩
theorem lw_p20 : lw_okq (⟨"ComplaintDesk", "fillCountOfDay", "(LComplaintDesk$Cause;)V"⟩, 11) := ⟨⟨by decide +kernel, by decide +kernel⟩, List.mem_of_getElem? (i := 33) (by decide +kernel), List.mem_of_getElem? (i := 997) (by decide +kernel), List.mem_of_getElem? (i := 998) (by decide +kernel)⟩
theorem lw_p21 : lw_okq (⟨"ComplaintDesk", "isRare", "(I)Z"⟩, 11) := ⟨⟨by decide +kernel, by decide +kernel⟩, List.mem_of_getElem? (i := 33) (by decide +kernel), List.mem_of_getElem? (i := 1016) (by decide +kernel), List.mem_of_getElem? (i := 1017) (by decide +kernel)⟩
theorem lw_p22 : lw_okq (⟨"ComplaintDeskModel", "uses", "()V"⟩, 35) := ⟨⟨by decide +kernel, by decide +kernel⟩, List.mem_of_getElem? (i := 1020) (by decide +kernel), List.mem_of_getElem? (i := 1153) (by decide +kernel), List.mem_of_getElem? (i := 1154) (by decide +kernel)⟩
theorem lw_p23 : lw_okq (⟨"ComplaintDeskModel", "noCause", "(I)Z"⟩, 35) := ⟨⟨by decide +kernel, by decide +kernel⟩, List.mem_of_getElem? (i := 1020) (by decide +kernel), List.mem_of_getElem? (i := 1157) (by decide +kernel), List.mem_of_getElem? (i := 1158) (by decide +kernel)⟩
theorem lw_p24 : lw_okq (⟨"ComplaintDeskModel", "throwsIf", "(ZI)Z"⟩, 35) := ⟨⟨by decide +kernel, by decide +kernel⟩, List.mem_of_getElem? (i := 1020) (by decide +kernel), List.mem_of_getElem? (i := 1167) (by decide +kernel), List.mem_of_getElem? (i := 1168) (by decide +kernel)⟩
theorem lw_p25 : lw_okq (⟨"ComplaintDeskModel", "readsPattern", "()Z"⟩, 35) := ⟨⟨by decide +kernel, by decide +kernel⟩, List.mem_of_getElem? (i := 1020) (by decide +kernel), List.mem_of_getElem? (i := 1171) (by decide +kernel), List.mem_of_getElem? (i := 1172) (by decide +kernel)⟩
theorem lw_p26 : lw_okq (⟨"ComplaintDeskModel", "readPattern", "()Z"⟩, 35) := ⟨⟨by decide +kernel, by decide +kernel⟩, List.mem_of_getElem? (i := 1020) (by decide +kernel), List.mem_of_getElem? (i := 1175) (by decide +kernel), List.mem_of_getElem? (i := 1176) (by decide +kernel)⟩
theorem lw_p27 : lw_okq (⟨"ComplaintDeskModel", "word", "()V"⟩, 35) := ⟨⟨by decide +kernel, by decide +kernel⟩, List.mem_of_getElem? (i := 1020) (by decide +kernel), List.mem_of_getElem? (i := 1179) (by decide +kernel), List.mem_of_getElem? (i := 1180) (by decide +kernel)⟩
theorem lw_p28 : lw_okq (⟨"ComplaintDeskModel", "blanks", "()V"⟩, 35) := ⟨⟨by decide +kernel, by decide +kernel⟩, List.mem_of_getElem? (i := 1020) (by decide +kernel), List.mem_of_getElem? (i := 1183) (by decide +kernel), List.mem_of_getElem? (i := 1184) (by decide +kernel)⟩
theorem lw_p29 : lw_okq (⟨"ComplaintDeskModel", "isAt", "(II)Z"⟩, 35) := ⟨⟨by decide +kernel, by decide +kernel⟩, List.mem_of_getElem? (i := 1020) (by decide +kernel), List.mem_of_getElem? (i := 1187) (by decide +kernel), List.mem_of_getElem? (i := 1188) (by decide +kernel)⟩
theorem lw_p30 : lw_okq (⟨"ComplaintDeskModel", "isWord", "(Ljava/lang/String;)Z"⟩, 35) := ⟨⟨by decide +kernel, by decide +kernel⟩, List.mem_of_getElem? (i := 1020) (by decide +kernel), List.mem_of_getElem? (i := 1192) (by decide +kernel), List.mem_of_getElem? (i := 1193) (by decide +kernel)⟩
theorem lw_p31 : lw_okq (⟨"ComplaintDeskModel", "isSign", "()Z"⟩, 35) := ⟨⟨by decide +kernel, by decide +kernel⟩, List.mem_of_getElem? (i := 1020) (by decide +kernel), List.mem_of_getElem? (i := 1219) (by decide +kernel), List.mem_of_getElem? (i := 1220) (by decide +kernel)⟩
def lw_privs_2 : List (MethodName × Nat) := [(⟨"ComplaintDesk", "matter", "(ILComplaintDesk$Cause;)I"⟩, 11), (⟨"ComplaintDesk", "fewestTemplates", "(I)I"⟩, 11), (⟨"ComplaintDesk", "causesOfSet", "(I)I"⟩, 11), (⟨"ComplaintDesk", "fillDueInDays", "(I)I"⟩, 11), (⟨"ComplaintDesk", "fillCountOfDay", "(LComplaintDesk$Cause;)V"⟩, 11), (⟨"ComplaintDesk", "isRare", "(I)Z"⟩, 11), (⟨"ComplaintDeskModel", "uses", "()V"⟩, 35), (⟨"ComplaintDeskModel", "noCause", "(I)Z"⟩, 35), (⟨"ComplaintDeskModel", "throwsIf", "(ZI)Z"⟩, 35), (⟨"ComplaintDeskModel", "readsPattern", "()Z"⟩, 35), (⟨"ComplaintDeskModel", "readPattern", "()Z"⟩, 35), (⟨"ComplaintDeskModel", "word", "()V"⟩, 35), (⟨"ComplaintDeskModel", "blanks", "()V"⟩, 35), (⟨"ComplaintDeskModel", "isAt", "(II)Z"⟩, 35), (⟨"ComplaintDeskModel", "isWord", "(Ljava/lang/String;)Z"⟩, 35), (⟨"ComplaintDeskModel", "isSign", "()Z"⟩, 35)]
theorem lw_r2 : ∀ q ∈ lw_privs_2, lw_okq q := List.forall_mem_cons.mpr ⟨lw_p16, List.forall_mem_cons.mpr ⟨lw_p17, List.forall_mem_cons.mpr ⟨lw_p18, List.forall_mem_cons.mpr ⟨lw_p19, List.forall_mem_cons.mpr ⟨lw_p20, List.forall_mem_cons.mpr ⟨lw_p21, List.forall_mem_cons.mpr ⟨lw_p22, List.forall_mem_cons.mpr ⟨lw_p23, List.forall_mem_cons.mpr ⟨lw_p24, List.forall_mem_cons.mpr ⟨lw_p25, List.forall_mem_cons.mpr ⟨lw_p26, List.forall_mem_cons.mpr ⟨lw_p27, List.forall_mem_cons.mpr ⟨lw_p28, List.forall_mem_cons.mpr ⟨lw_p29, List.forall_mem_cons.mpr ⟨lw_p30, List.forall_mem_cons.mpr ⟨lw_p31, fun _ h => absurd h List.not_mem_nil⟩⟩⟩⟩⟩⟩⟩⟩⟩⟩⟩⟩⟩⟩⟩⟩
theorem lw_p32 : lw_okq (⟨"ComplaintDeskModel", "setsPattern", "(I)V"⟩, 35) := ⟨⟨by decide +kernel, by decide +kernel⟩, List.mem_of_getElem? (i := 1020) (by decide +kernel), List.mem_of_getElem? (i := 1225) (by decide +kernel), List.mem_of_getElem? (i := 1226) (by decide +kernel)⟩
theorem lw_p33 : lw_okq (⟨"ComplaintDeskModel", "sorted", "(II)I"⟩, 35) := ⟨⟨by decide +kernel, by decide +kernel⟩, List.mem_of_getElem? (i := 1020) (by decide +kernel), List.mem_of_getElem? (i := 1233) (by decide +kernel), List.mem_of_getElem? (i := 1234) (by decide +kernel)⟩
theorem lw_p34 : lw_okq (⟨"ComplaintDeskModel", "below", "(III)I"⟩, 35) := ⟨⟨by decide +kernel, by decide +kernel⟩, List.mem_of_getElem? (i := 1020) (by decide +kernel), List.mem_of_getElem? (i := 1237) (by decide +kernel), List.mem_of_getElem? (i := 1238) (by decide +kernel)⟩
theorem lw_p35 : lw_okq (⟨"ComplaintDeskModel", "fits", "(III)Z"⟩, 35) := ⟨⟨by decide +kernel, by decide +kernel⟩, List.mem_of_getElem? (i := 1020) (by decide +kernel), List.mem_of_getElem? (i := 1241) (by decide +kernel), List.mem_of_getElem? (i := 1242) (by decide +kernel)⟩
theorem lw_p36 : lw_okq (⟨"ComplaintDeskModel", "hasWord", "(III)Z"⟩, 35) := ⟨⟨by decide +kernel, by decide +kernel⟩, List.mem_of_getElem? (i := 1020) (by decide +kernel), List.mem_of_getElem? (i := 1245) (by decide +kernel), List.mem_of_getElem? (i := 1246) (by decide +kernel)⟩
theorem lw_p37 : lw_okq (⟨"ComplaintDeskModel", "isSame", "(III)Z"⟩, 35) := ⟨⟨by decide +kernel, by decide +kernel⟩, List.mem_of_getElem? (i := 1020) (by decide +kernel), List.mem_of_getElem? (i := 1249) (by decide +kernel), List.mem_of_getElem? (i := 1250) (by decide +kernel)⟩
theorem lw_p38 : lw_okq (⟨"ComplaintDeskModel", "puts", "(III)V"⟩, 35) := ⟨⟨by decide +kernel, by decide +kernel⟩, List.mem_of_getElem? (i := 1020) (by decide +kernel), List.mem_of_getElem? (i := 1253) (by decide +kernel), List.mem_of_getElem? (i := 1254) (by decide +kernel)⟩
theorem lw_p39 : lw_okq (⟨"ComplaintDeskModel", "readLetter", "()Z"⟩, 35) := ⟨⟨by decide +kernel, by decide +kernel⟩, List.mem_of_getElem? (i := 1020) (by decide +kernel), List.mem_of_getElem? (i := 1261) (by decide +kernel), List.mem_of_getElem? (i := 1262) (by decide +kernel)⟩
theorem lw_p40 : lw_okq (⟨"ComplaintDeskModel", "next", "(I)I"⟩, 35) := ⟨⟨by decide +kernel, by decide +kernel⟩, List.mem_of_getElem? (i := 1020) (by decide +kernel), List.mem_of_getElem? (i := 1273) (by decide +kernel), List.mem_of_getElem? (i := 1274) (by decide +kernel)⟩
theorem lw_p41 : lw_okq (⟨"ComplaintDeskModel", "isOf", "(II)Z"⟩, 35) := ⟨⟨by decide +kernel, by decide +kernel⟩, List.mem_of_getElem? (i := 1020) (by decide +kernel), List.mem_of_getElem? (i := 1277) (by decide +kernel), List.mem_of_getElem? (i := 1278) (by decide +kernel)⟩
theorem lw_p42 : lw_okq (⟨"ComplaintDeskModel", "isAhead", "(II)Z"⟩, 35) := ⟨⟨by decide +kernel, by decide +kernel⟩, List.mem_of_getElem? (i := 1020) (by decide +kernel), List.mem_of_getElem? (i := 1281) (by decide +kernel), List.mem_of_getElem? (i := 1282) (by decide +kernel)⟩
theorem lw_p43 : lw_okq (⟨"ComplaintDeskModel", "noPoint", "(II)Z"⟩, 35) := ⟨⟨by decide +kernel, by decide +kernel⟩, List.mem_of_getElem? (i := 1020) (by decide +kernel), List.mem_of_getElem? (i := 1289) (by decide +kernel), List.mem_of_getElem? (i := 1290) (by decide +kernel)⟩
theorem lw_p44 : lw_okq (⟨"ComplaintDeskModel", "noLetter", "(I)Z"⟩, 35) := ⟨⟨by decide +kernel, by decide +kernel⟩, List.mem_of_getElem? (i := 1020) (by decide +kernel), List.mem_of_getElem? (i := 1293) (by decide +kernel), List.mem_of_getElem? (i := 1294) (by decide +kernel)⟩
theorem lw_p45 : lw_okq (⟨"ComplaintDeskModel", "isClosed", "(I)Z"⟩, 35) := ⟨⟨by decide +kernel, by decide +kernel⟩, List.mem_of_getElem? (i := 1020) (by decide +kernel), List.mem_of_getElem? (i := 1313) (by decide +kernel), List.mem_of_getElem? (i := 1314) (by decide +kernel)⟩
theorem lw_p46 : lw_okq (⟨"ComplaintDeskModel", "theAnswer", "(I)I"⟩, 35) := ⟨⟨by decide +kernel, by decide +kernel⟩, List.mem_of_getElem? (i := 1020) (by decide +kernel), List.mem_of_getElem? (i := 1317) (by decide +kernel), List.mem_of_getElem? (i := 1318) (by decide +kernel)⟩
theorem lw_p47 : lw_okq (⟨"ComplaintDeskModel", "counted", "(I)V"⟩, 35) := ⟨⟨by decide +kernel, by decide +kernel⟩, List.mem_of_getElem? (i := 1020) (by decide +kernel), List.mem_of_getElem? (i := 1330) (by decide +kernel), List.mem_of_getElem? (i := 1331) (by decide +kernel)⟩
def lw_privs_3 : List (MethodName × Nat) := [(⟨"ComplaintDeskModel", "setsPattern", "(I)V"⟩, 35), (⟨"ComplaintDeskModel", "sorted", "(II)I"⟩, 35), (⟨"ComplaintDeskModel", "below", "(III)I"⟩, 35), (⟨"ComplaintDeskModel", "fits", "(III)Z"⟩, 35), (⟨"ComplaintDeskModel", "hasWord", "(III)Z"⟩, 35), (⟨"ComplaintDeskModel", "isSame", "(III)Z"⟩, 35), (⟨"ComplaintDeskModel", "puts", "(III)V"⟩, 35), (⟨"ComplaintDeskModel", "readLetter", "()Z"⟩, 35), (⟨"ComplaintDeskModel", "next", "(I)I"⟩, 35), (⟨"ComplaintDeskModel", "isOf", "(II)Z"⟩, 35), (⟨"ComplaintDeskModel", "isAhead", "(II)Z"⟩, 35), (⟨"ComplaintDeskModel", "noPoint", "(II)Z"⟩, 35), (⟨"ComplaintDeskModel", "noLetter", "(I)Z"⟩, 35), (⟨"ComplaintDeskModel", "isClosed", "(I)Z"⟩, 35), (⟨"ComplaintDeskModel", "theAnswer", "(I)I"⟩, 35), (⟨"ComplaintDeskModel", "counted", "(I)V"⟩, 35)]
theorem lw_r3 : ∀ q ∈ lw_privs_3, lw_okq q := List.forall_mem_cons.mpr ⟨lw_p32, List.forall_mem_cons.mpr ⟨lw_p33, List.forall_mem_cons.mpr ⟨lw_p34, List.forall_mem_cons.mpr ⟨lw_p35, List.forall_mem_cons.mpr ⟨lw_p36, List.forall_mem_cons.mpr ⟨lw_p37, List.forall_mem_cons.mpr ⟨lw_p38, List.forall_mem_cons.mpr ⟨lw_p39, List.forall_mem_cons.mpr ⟨lw_p40, List.forall_mem_cons.mpr ⟨lw_p41, List.forall_mem_cons.mpr ⟨lw_p42, List.forall_mem_cons.mpr ⟨lw_p43, List.forall_mem_cons.mpr ⟨lw_p44, List.forall_mem_cons.mpr ⟨lw_p45, List.forall_mem_cons.mpr ⟨lw_p46, List.forall_mem_cons.mpr ⟨lw_p47, fun _ h => absurd h List.not_mem_nil⟩⟩⟩⟩⟩⟩⟩⟩⟩⟩⟩⟩⟩⟩⟩⟩
theorem lw_p48 : lw_okq (⟨"ComplaintDeskModel", "isUnder", "(II)Z"⟩, 35) := ⟨⟨by decide +kernel, by decide +kernel⟩, List.mem_of_getElem? (i := 1020) (by decide +kernel), List.mem_of_getElem? (i := 1334) (by decide +kernel), List.mem_of_getElem? (i := 1335) (by decide +kernel)⟩
def lw_privs_4 : List (MethodName × Nat) := [(⟨"ComplaintDeskModel", "isUnder", "(II)Z"⟩, 35)]
theorem lw_r4 : ∀ q ∈ lw_privs_4, lw_okq q := List.forall_mem_cons.mpr ⟨lw_p48, fun _ h => absurd h List.not_mem_nil⟩
def lw_privs : List (MethodName × Nat) := lw_privs_1 ++ (lw_privs_2 ++ (lw_privs_3 ++ (lw_privs_4)))
def lw_tbl : List Cond := k2_sels lw_privs ++ tables_1
theorem lw_privs_ok : ∀ q ∈ lw_privs, lw_okq q := by
  show ∀ q ∈ lw_privs_1 ++ (lw_privs_2 ++ (lw_privs_3 ++ (lw_privs_4))), lw_okq q
  exact List.forall_mem_append.mpr ⟨lw_r1, List.forall_mem_append.mpr ⟨lw_r2, List.forall_mem_append.mpr ⟨lw_r3, lw_r4⟩⟩⟩
/-! ===== BEGIN words of one list among another's, by their places ===== -/
theorem goodIn_r {big : List Cond} (ws : List Cond) (ps : List Nat) (hp : ws = ps.filterMap (fun i => big[i]?)) (h : ws.all goodWord = true) : GoodIn big ws := by
  intro w hw
  have h1 := List.all_eq_true.mp h w hw
  rw [hp] at hw
  obtain ⟨i, -, hi⟩ := List.mem_filterMap.mp hw
  have hm : w ∈ big := by first | exact List.mem_of_getElem? hi | exact List.getElem?_mem hi
  exact ⟨hm, good_of_word h1⟩
theorem goodIn_app {big a b : List Cond} (ha : GoodIn big a) (hb : GoodIn big b) : GoodIn big (a ++ b) := fun w h => (List.mem_append.mp h).elim (ha w) (hb w)
theorem goodIn_ca {big a b : List Cond} {c : Cond} (ha : GoodIn big (c :: a)) (hb : GoodIn big b) : GoodIn big (c :: (a ++ b)) := fun w h => (List.mem_cons.mp h).elim (fun e => ha w (List.mem_cons.mpr (Or.inl e))) (fun h => (List.mem_append.mp h).elim (fun h => ha w (List.mem_cons.mpr (Or.inr h))) (hb w))
theorem goodIn_sub {big ws : List Cond} (hm : ∀ w ∈ ws, w ∈ big) (h : ws.all goodWord = true) : GoodIn big ws := fun w hw => ⟨hm w hw, good_of_word (List.all_eq_true.mp h w hw)⟩
/-! ===== END ===== -/

/-! ===== BEGIN exceptions that leave a method, and their catching by the caller (launches without stack traces) ===== -/
section VXA
/-! The laws vx_back, vx_callV, vx_callS, vx_callSW, vx_throw0, vx_throwS follow proofs of the library, with one case more: JvmDerived/Free/Laws.lean (Back.of_free), Shelf42/LK1.lean (callV, callS), Shelf/KitTraced.lean (throwNew0V, throwNewS). -/
/-- where a method has thrown q: the class by its name, the cell, what was written, the world -/
def vx_T (XC : String → State → State → Prop) (st : State) (q : Addr) (t : State) (mc ms : Nat) (free : Addr → Prop) : Prop :=
  ∃ (E : String) (ce : Cell) (L : List Loc), XC E st t ∧ t.heap[q]? = some ce ∧ ce.vm = .none ∧ st.vm.findClass E = some ce.cls ∧ st.WarmedH t.vm ∧ st.sameButNew ({ t with vm := st.vm } : State) L mc ms ∧ ∀ z ∈ L, free z.base
def vx_Q (Qc : Array Value → State → Outcome → State → Prop) (XC : String → State → State → Prop) (mc ms : Nat) (free : Addr → Prop) : Array Value → State → Outcome → State → Prop := fun a st o t =>
  (Qc a st o t ∧ ∃ L, FrameEnd st o t L mc ms ∧ ∀ q ∈ L, free q.base) ∨ ∃ q, o = .threw q ∧ vx_T XC st q t mc ms free
/-- a callee that returns or throws -/
def vx_Met (l : Launch) (y : MethodName) (ws : List Cond) (rm : Room) (Pc : Array Value → State → Prop) (Qc : Array Value → State → Outcome → State → Prop) (XC : String → State → State → Prop) (mc ms : Nat) (free : Addr → Prop) : Prop :=
  MetFree l y (headSpec ws rm) Pc (fun _ _ _ _ _ => True) (vx_Q Qc XC mc ms free)
def vx_Post (XC : String → State → State → Prop) (mc ms : Nat) (free : Addr → Prop) : Pt → Array Value → Addr → Pt → Prop := fun A a q B =>
  ∃ (g : JFrame) (mk : MethodId) (t : State) (L : List Loc) (E : String) (ce : Cell), B.U.heap = t.heap ∧ B.U.vm = t.vm ∧ XC E (A.U.calling g mk a) t ∧ t.heap[q]? = some ce ∧ ce.vm = .none ∧ A.U.vm.findClass E = some ce.cls ∧ B.locs = A.locs ++ L ∧ (∀ z ∈ L, free z.base) ∧ B.cells = A.cells + mc ∧ B.slots = A.slots + ms
def vx_Back (l : Launch) (R : Room) (p : Program) (e : Env) (below : List Frame) (s : State) (sargs : Array Value) (y : MethodName) (len W9 : Nat)
    (Pre : Pt → Array Value → Prop) (Post : Pt → Array Value → Option Value → Pt → Prop) (PostX : Pt → Array Value → Addr → Pt → Prop) : Prop :=
  ∀ (m : MethodId) (meth : Method) (c : Code) (A : Pt) (g : JFrame) (ig : Instr) (mk : MethodId) (a : Array Value),
    Stand p l e R s m sargs below meth c A.U A.locs A.cells A.slots → g.method = m → g.locals.size = c.maxLocals → decode c.code g.pc = .ok (ig, len) →
    2 * g.monitorRoom + (g.stack.map fun v => v.category).sum ≤ W9 → A.U.methodNamed? y = some mk → Pre A a →
    (∃ (v : Option Value) (B : Pt), Stand p l e R s m sargs below meth c B.U B.locs B.cells B.slots ∧ Post A a v B ∧
      Steps p.tables e below (doInvoke e (A.U.setTop g) [] mk a).1 (B.U.setTop { g with pc := g.pc + len, stack := v.toList ++ g.stack })) ∨
    (∃ (q : Addr) (B : Pt), Stand p l e R s m sargs below meth c B.U B.locs B.cells B.slots ∧ PostX A a q B ∧
      Steps p.tables e below (doInvoke e (A.U.setTop g) [] mk a).1 ((B.U.setTop g).pushFrame (.throwing q)))
section Payer
variable {l : Launch} {R : Room} {p : Program} {e : Env} {below : List Frame} {s : State} {sargs : Array Value} {y : MethodName} {len W9 : Nat}
theorem vx_back {ws : List Cond} {rm : Room} {Pc : Array Value → State → Prop} {Qc : Array Value → State → Outcome → State → Prop} {XC : String → State → State → Prop} {mc ms : Nat} {free : Addr → Prop} {bytes : ByteArray} {maxL : Nat} {ret : Option FieldType}
    (hM : vx_Met l y ws rm Pc Qc XC mc ms free) (hblind : FrameBlind Pc) (hrc : rm.cells = mc) (hrs : rm.slots = ms)
    (hframes : rm.frames + 1 ≤ R.frames) (hlocals : W9 + (maxL + 11) + rm.locals ≤ R.locals)
    (hws : ∀ w ∈ ws, ∀ a' U, s.WarmedH U.vm → w.before a' U = true) (hcode : Cond.code y bytes maxL ret ∈ ws) (hinit : ∀ a' U, s.WarmedH U.vm → (Cond.initialized y.cls).before a' U = true) :
    vx_Back l R p e below s sargs y len W9 (PreOf R mc ms Pc) (PostOf Qc mc ms free) (vx_Post XC mc ms free) := by
  intro m meth c A g ig mk a X hg hsize hdg hW hn hp
  have h1 : (headSpec ws rm).pre.before a A.U = true := atoms_intro fun w hw => hws w hw _ _ X.warmed
  have h2 : (Cond.code y bytes maxL ret).before a A.U = true := hws _ hcode _ _ X.warmed
  have h3 : (Cond.initialized y.cls).before a A.U = true := hinit _ _ X.warmed
  have h4 : A.cells + (headSpec ws rm).room.cells ≤ R.cells := by rw [show (headSpec ws rm).room.cells = mc from hrc]; exact hp.1
  have h5 : A.slots + (headSpec ws rm).room.slots ≤ R.slots := by rw [show (headSpec ws rm).room.slots = ms from hrs]; exact hp.2.1
  have hPc : Pc a (A.U.calling g mk a) := hblind _ _ _ _ hp.2.2
  obtain ⟨U, Ls, c0, s0⟩ := A
  dsimp only [Pt.U, Pt.locs, Pt.cells, Pt.slots] at h1 h2 h3 h4 h5 X hn hPc ⊢
  obtain ⟨methY, cY, hmY, hcY, -, hlY, -, -, -, -⟩ := Cond.code_spec hn h2
  obtain ⟨kY, hkY, -⟩ := className_of_methodNamed hn
  have hinitY : kY.init = .initialized := Cond.initialized_spec (findClass_of_methodNamed hn) hkY h3
  have h : At U g.method c below := by rw [hg]; exact X.here
  have hlocals9 : W9 + (maxL + 11) + (headSpec ws rm).room.locals ≤ R.locals := hlocals
  have happ : (headSpec ws rm).appliesLoose y e.platform (U.calling g mk a) = true :=
    Spec.appliesLoose_calling (g := g) h hdg hn hkY hinitY
      (X.room_calling (g := g) (R' := (headSpec ws rm).room) hsize hmY hcY hframes (by rw [hlY]; omega) h4 h5) h1
  obtain ⟨mid, hmid⟩ := h.above
  have hfr : (U.setTop g).frames = (.java g :: mid) ++ below := by rw [State.frames_setTop' g h.top, hmid]; rfl
  obtain ⟨o, s₂, hsteps, -, hend, hq⟩ := Steps.callFree hM p X.admits X.cas X.clock (acts := []) hfr happ hPc trivial
  have hq' : vx_Q Qc XC mc ms free a (U.calling g mk a) o s₂ := hq
  rw [State.frames_setTop' g h.top] at hend
  obtain ⟨g₀, hg0⟩ := Option.isSome_iff_exists.mp h.top
  obtain ⟨r, hr⟩ := State.topJava?_eq_some.mp hg0
  have hr' : (({ U with heap := s₂.heap, slotsUsed := s₂.slotsUsed } : State).setVm s₂.vm).frames = .java g₀ :: r := hr
  rcases hq' with ⟨hqc, L, hfe, hL⟩ | ⟨q, rfl, E, ce, L, hx, hce, hcv, hcl, hW₂, hsm, hL⟩
  · obtain ⟨⟨v, rfl⟩, hW₂, e2, q2, q3, q4, q5, q6⟩ := id hfe
    have e3 : s₂ = ({ (U.calling g mk a).setFrames s₂.frames with heap := s₂.heap, slotsUsed := s₂.slotsUsed } : State).setVm s₂.vm := by
      have : s₂ = ({ s₂ with vm := (U.calling g mk a).vm } : State).setVm s₂.vm := rfl
      rw [e2] at this
      exact this
    obtain ⟨c₂, i₂, len₂, hc₂, hd₂, hf₂⟩ := hend
    have hW' : U.WarmedH s₂.vm := hW₂
    have hcc : c₂ = c := by
      have h1 : s₂.code? g.method = U.code? g.method := by
        rw [State.code?_eq, State.code?_eq, hW'.alike.method?]
      exact Option.some.inj (hc₂.symm.trans (h1.trans h.code))
    subst hcc
    have hlen : len₂ = len := by rw [hdg] at hd₂; cases hd₂; rfl
    subst hlen
    have hs₂ : s₂ = (({ U with heap := s₂.heap, slotsUsed := s₂.slotsUsed } : State).setVm s₂.vm).setTop { g with pc := g.pc + len₂, stack := v.toList ++ g.stack } := by
      refine e3.trans ?_
      rw [hf₂, State.calling_eq h.top, State.setFrames_setFrames, State.setTop_of_frames _ hr', hr]
      rfl
    have hsame : U.sameButNew ({ U with heap := s₂.heap, slotsUsed := s₂.slotsUsed } : State) L mc ms := by
      refine ⟨?_, q2, q3, q4, q5, q6⟩
      obtain ⟨t, ht, -⟩ := State.frames_cons hr
      show ({ U with heap := s₂.heap, slotsUsed := s₂.slotsUsed } : State) = { U.setFrames U.frames with heap := s₂.heap, slotsUsed := s₂.slotsUsed }
      rw [State.setFrames_self ht]
    subst hg
    refine Or.inl ⟨v, ⟨(({ U with heap := s₂.heap, slotsUsed := s₂.slotsUsed } : State).setVm s₂.vm), Ls ++ L, c0 + mc, s0 + ms⟩,
      ⟨X.admits, X.cas, X.clock, X.frames, X.room, X.hears, X.method, X.code, (X.here.setHeapUsed s₂.heap s₂.slotsUsed).setVm hW'.alike, X.tail, State.WarmedH.trans X.warmed hW', X.limits, X.bytes, X.same.trans (hsame.setVm s.vm)⟩,
      ⟨g, mk, s₂, L, rfl, rfl, hqc, rfl, hL, rfl, rfl⟩, ?_⟩
    show Steps p.tables e below _ ((({ U with heap := s₂.heap, slotsUsed := s₂.slotsUsed } : State).setVm s₂.vm).setTop { g with pc := g.pc + len₂, stack := v.toList ++ g.stack })
    rw [← hs₂]
    exact hsteps
  · obtain ⟨e2, q2, q3, q4, q5, q6⟩ := id hsm
    have e3 : s₂ = ({ (U.calling g mk a).setFrames s₂.frames with heap := s₂.heap, slotsUsed := s₂.slotsUsed } : State).setVm s₂.vm := by
      have : s₂ = ({ s₂ with vm := (U.calling g mk a).vm } : State).setVm s₂.vm := rfl
      rw [e2] at this
      exact this
    have hf₂ : s₂.frames = .throwing q :: .java g :: U.frames.tail := hend
    have hW' : U.WarmedH s₂.vm := hW₂
    have hs₂ : s₂ = ((({ U with heap := s₂.heap, slotsUsed := s₂.slotsUsed } : State).setVm s₂.vm).setTop g).pushFrame (.throwing q) := by
      refine e3.trans ?_
      rw [hf₂, State.calling_eq h.top, State.setFrames_setFrames, State.pushFrame, State.frames_setTop _ hr', State.setTop_of_frames _ hr', State.setFrames_setFrames, hr]
      rfl
    have hsame : U.sameButNew ({ U with heap := s₂.heap, slotsUsed := s₂.slotsUsed } : State) L mc ms := by
      refine ⟨?_, q2, q3, q4, q5, q6⟩
      obtain ⟨t, ht, -⟩ := State.frames_cons hr
      show ({ U with heap := s₂.heap, slotsUsed := s₂.slotsUsed } : State) = { U.setFrames U.frames with heap := s₂.heap, slotsUsed := s₂.slotsUsed }
      rw [State.setFrames_self ht]
    subst hg
    refine Or.inr ⟨q, ⟨(({ U with heap := s₂.heap, slotsUsed := s₂.slotsUsed } : State).setVm s₂.vm), Ls ++ L, c0 + mc, s0 + ms⟩,
      ⟨X.admits, X.cas, X.clock, X.frames, X.room, X.hears, X.method, X.code, (X.here.setHeapUsed s₂.heap s₂.slotsUsed).setVm hW'.alike, X.tail, State.WarmedH.trans X.warmed hW', X.limits, X.bytes, X.same.trans (hsame.setVm s.vm)⟩,
      ⟨g, mk, s₂, L, E, ce, rfl, rfl, hx, hce, hcv, hcl, rfl, hL, rfl, rfl⟩, ?_⟩
    show Steps p.tables e below _ (((({ U with heap := s₂.heap, slotsUsed := s₂.slotsUsed } : State).setVm s₂.vm).setTop g).pushFrame (.throwing q))
    rw [← hs₂]
    exact hsteps
end Payer
section Calls
variable {p : Program} {l : Launch} {e : Env} {R : Room} {s : State} {m : MethodId} {args : Array Value} {below : List Frame} {meth : Method} {c : Code} {T : State} {locs : List Loc} {cells slots : Nat}
theorem vx_callV (X : Stand p l e R s m args below meth c T locs cells slots) (hexec : p.tables.exec = Jvm.exec) {own C : String} {index : Nat} {y : MethodName} {bytes : ByteArray} {maxL : Nat} {ret : Option FieldType}
    (hown : s.vm.findClass own = some m.cls) (hlink : (Cond.methodLink own index y).before args s = true) (hinst : (Cond.instanceMethod y).before args s = true) (hsel : (Cond.selects C y y).before args s = true)
    (hcode : (Cond.code y bytes maxL ret).before args s = true) (hy : y.cls ≠ "java/lang/invoke/MethodHandle" ∧ y.cls ≠ "java/lang/invoke/VarHandle")
    {W9 : Nat} {Pre : Pt → Array Value → Prop} {Post : Pt → Array Value → Option Value → Pt → Prop} {PostX : Pt → Array Value → Addr → Pt → Prop} (hK : vx_Back l R p e below s args y 3 W9 Pre Post PostX)
    {b : Addr} {cellB : Cell} (hcell : T.heap[b]? = some cellB) (hobj : cellB.vm.isStatics = false) (hcls : s.vm.findClass C = some cellB.cls)
    {g : JFrame} (hg : g.method = m) (hsize : g.locals.size = c.maxLocals) {argsL rest : List Value} (hlen : ∀ sig, parseMethodDescriptor y.desc = some sig → argsL.length = sig.parameters.length)
    (hstack : g.stack = argsL.reverse ++ .ref b :: rest) (hW : 2 * g.monitorRoom + (rest.map fun v => v.category).sum ≤ W9) (hdg : decode c.code g.pc = .ok (.invokevirtual index, 3))
    (hpre : ∀ vm₁, s.WarmedH vm₁ → Pre ⟨T.setVm vm₁, locs, cells, slots⟩ (Value.ref b :: argsL).toArray) :
    (∃ (v : Option Value) (vm₁ : Vm) (B : Pt), s.WarmedH vm₁ ∧ Stand p l e R s m args below meth c B.U B.locs B.cells B.slots ∧ Post ⟨T.setVm vm₁, locs, cells, slots⟩ (Value.ref b :: argsL).toArray v B ∧
      ∀ target, Steps p.tables e below (B.U.setTop { g with pc := g.pc + 3, stack := v.toList ++ rest }) target → Steps p.tables e below (T.setTop g) target) ∨
    (∃ (q : Addr) (vm₁ : Vm) (B : Pt), s.WarmedH vm₁ ∧ Stand p l e R s m args below meth c B.U B.locs B.cells B.slots ∧ PostX ⟨T.setVm vm₁, locs, cells, slots⟩ (Value.ref b :: argsL).toArray q B ∧
      Steps p.tables e below (T.setTop g) ((B.U.setTop { g with stack := rest }).pushFrame (.throwing q))) := by
  obtain ⟨mk, methM, hnamed, hmethM, hstM, habM⟩ := Cond.instanceMethod_spec hinst
  obtain ⟨methM', cM, hmethM', -, -, -, -, -, -, hsigM⟩ := Cond.code_spec hnamed hcode
  cases hmethM.symm.trans hmethM'
  obtain ⟨c2, r2, m2, q1, q2, q3, q4, kP, hkP, hkPi⟩ := Cond.selects_spec hsel
  cases hcls.symm.trans q1
  cases (State.methodFound?_of_named hnamed hy).symm.trans q2
  cases hnamed.symm.trans q3
  have hselP : selectMethod e.platform s.vm cellB.cls mk = .method mk := by rw [Launch.admits_selectMethod X.admits]; exact q4
  obtain ⟨vm₁, X₁, hstep₁⟩ := X.invokevirtual hexec hown hlink hnamed hmethM hstM hkP hkPi hy (a := b) (cell := cellB) hcell
    (fun z h => by rw [h] at hobj; cases hobj) hselP hmethM habM hkP hkPi (g := g) hg (argsL := argsL) (rest := rest) (hlen _ hsigM) hstack hdg
  rcases hK m meth c ⟨T.setVm vm₁, locs, cells, slots⟩ { g with stack := rest } (.invokevirtual index) mk (Value.ref b :: argsL).toArray X₁ hg hsize hdg hW (X₁.named hnamed) (hpre vm₁ X₁.warmed) with ⟨v, B, X', hpost, hsteps⟩ | ⟨q, B, X', hpost, hsteps⟩
  · exact Or.inl ⟨v, vm₁, B, X₁.warmed, X', hpost, fun target h => hstep₁ _ fun acts => by rw [doInvoke_state]; exact hsteps.trans h⟩
  · exact Or.inr ⟨q, vm₁, B, X₁.warmed, X', hpost, hstep₁ _ fun acts => by rw [doInvoke_state]; exact hsteps⟩
theorem vx_callS (X : Stand p l e R s m args below meth c T locs cells slots) (hexec : p.tables.exec = Jvm.exec) {own : String} {index : Nat} {y : MethodName} {bytes : ByteArray} {maxL : Nat} {ret : Option FieldType}
    (hown : s.vm.findClass own = some m.cls) (hlink : (Cond.methodLink own index y).before args s = true) (hstat : (Cond.static y).before args s = true) (hinit : (Cond.initialized y.cls).before args s = true)
    (hcode : (Cond.code y bytes maxL ret).before args s = true) (hy : y.cls ≠ "java/lang/invoke/MethodHandle" ∧ y.cls ≠ "java/lang/invoke/VarHandle")
    {W9 : Nat} {Pre : Pt → Array Value → Prop} {Post : Pt → Array Value → Option Value → Pt → Prop} {PostX : Pt → Array Value → Addr → Pt → Prop} (hK : vx_Back l R p e below s args y 3 W9 Pre Post PostX)
    {g : JFrame} (hg : g.method = m) (hsize : g.locals.size = c.maxLocals) {argsL rest : List Value} (hlen : ∀ sig, parseMethodDescriptor y.desc = some sig → argsL.length = sig.parameters.length)
    (hstack : g.stack = argsL.reverse ++ rest) (hW : 2 * g.monitorRoom + (rest.map fun v => v.category).sum ≤ W9) (hdg : decode c.code g.pc = .ok (.invokestatic index, 3))
    (hpre : ∀ vm₁, s.WarmedH vm₁ → Pre ⟨T.setVm vm₁, locs, cells, slots⟩ argsL.toArray) :
    (∃ (v : Option Value) (vm₁ : Vm) (B : Pt), s.WarmedH vm₁ ∧ Stand p l e R s m args below meth c B.U B.locs B.cells B.slots ∧ Post ⟨T.setVm vm₁, locs, cells, slots⟩ argsL.toArray v B ∧
      ∀ target, Steps p.tables e below (B.U.setTop { g with pc := g.pc + 3, stack := v.toList ++ rest }) target → Steps p.tables e below (T.setTop g) target) ∨
    (∃ (q : Addr) (vm₁ : Vm) (B : Pt), s.WarmedH vm₁ ∧ Stand p l e R s m args below meth c B.U B.locs B.cells B.slots ∧ PostX ⟨T.setVm vm₁, locs, cells, slots⟩ argsL.toArray q B ∧
      Steps p.tables e below (T.setTop g) ((B.U.setTop { g with stack := rest }).pushFrame (.throwing q))) := by
  obtain ⟨mk, hnamed⟩ := Cond.code_named hcode
  obtain ⟨methM, cM, hmethM, -, -, -, -, -, -, hsigM⟩ := Cond.code_spec hnamed hcode
  have hstatic : methM.isStatic = true := Cond.static_spec hnamed hmethM hstat
  obtain ⟨kP, hkP, -⟩ := className_of_methodNamed hnamed
  have hinitP : kP.init = .initialized := Cond.initialized_spec (findClass_of_methodNamed hnamed) hkP hinit
  obtain ⟨vm₁, X₁, hstep₁⟩ := X.invokestatic hexec hown hlink hnamed hmethM hstatic hkP hinitP hy (g := g) hg (argsL := argsL) (rest := rest) (hlen _ hsigM) hstack hdg
  rcases hK m meth c ⟨T.setVm vm₁, locs, cells, slots⟩ { g with stack := rest } (.invokestatic index) mk argsL.toArray X₁ hg hsize hdg hW (X₁.named hnamed) (hpre vm₁ X₁.warmed) with ⟨v, B, X', hpost, hsteps⟩ | ⟨q, B, X', hpost, hsteps⟩
  · exact Or.inl ⟨v, vm₁, B, X₁.warmed, X', hpost, fun target h => hstep₁ _ fun acts => by rw [doInvoke_state]; exact hsteps.trans h⟩
  · exact Or.inr ⟨q, vm₁, B, X₁.warmed, X', hpost, hstep₁ _ fun acts => by rw [doInvoke_state]; exact hsteps⟩
end Calls
theorem vx_cls {s : State} {T : State} {vm₁ : Vm} {E : String} {k : ClassId} (hW : s.WarmedH vm₁) (h : (T.setVm vm₁).vm.findClass E = some k) : s.vm.findClass E = some k := by
  have h1 : vm₁.findClass E = some k := h
  rw [hW.alike.findClass] at h1
  exact h1
/-- the method's frame g, with q thrown over it -/
def vx_W (p : Program) (l : Launch) (e : Env) (R : Room) (s : State) (m : MethodId) (args : Array Value) (below : List Frame) (meth : Method) (c : Code) (H : Heap) (locs : List Loc) (cells slots : Nat) (Q : State → Prop) (g : JFrame) (q : Addr) : Prop :=
  ∀ T : State, T.heap = H → Stand p l e R s m args below meth c T locs cells slots → ∃ t, Steps p.tables e below ((T.setTop g).pushFrame (.throwing q)) t ∧ Q t
def vx_Run (p : Program) (l : Launch) (e : Env) (R : Room) (s : State) (m : MethodId) (args : Array Value) (below : List Frame) (meth : Method) (c : Code) (H : Heap) (locs : List Loc) (cells slots mc ms : Nat) (g : JFrame) (rest : List Value) (Qa : State → Outcome → State → Prop) (XC : String → State → State → Prop) (free : Addr → Prop) : Prop :=
  ∀ T : State, T.heap = H → Stand p l e R s m args below meth c T locs cells slots →
    (∃ (v : Option Value) (st₀ t T' : State) (L : List Loc), st₀.heap = H ∧ Stand p l e R s m args below meth c T' (locs ++ L) (cells + mc) (slots + ms) ∧ (∀ q ∈ L, free q.base) ∧ T'.heap = t.heap ∧ T'.vm = t.vm ∧ Qa st₀ (.returned v) t ∧
      Goes p e below T g T' { g with pc := g.pc + 3, stack := v.toList ++ rest }) ∨
    (∃ (q : Addr) (st₀ t T' : State) (L : List Loc) (E : String) (ce : Cell), st₀.heap = H ∧ Stand p l e R s m args below meth c T' (locs ++ L) (cells + mc) (slots + ms) ∧ (∀ z ∈ L, free z.base) ∧ T'.heap = t.heap ∧ T'.vm = t.vm ∧ XC E st₀ t ∧ t.heap[q]? = some ce ∧ ce.vm = .none ∧ s.vm.findClass E = some ce.cls ∧
      Steps p.tables e below (T.setTop g) ((T'.setTop { g with stack := rest }).pushFrame (.throwing q)))
def vx_X {S : Type} (px : S → Prop) (B : String → S → State → Prop) (A : Nat → Prop) : String → State → State → Prop := fun E st t => ∃ u : S, px u ∧ B E u t ∧ va_F A st t
section Runs
variable {p : Program} {l : Launch} {e : Env} {R : Room} {s : State} {m : MethodId} {args : Array Value} {below : List Frame} {meth : Method} {c : Code} {H : Heap} {locs : List Loc} {cells slots : Nat}
variable {y : MethodName} {bytes cc : ByteArray} {maxL nL mc ms n index : Nat} {ret : Option FieldType} {ws : List Cond} {rm : Room} {Pc : Array Value → State → Prop} {Qc : Array Value → State → Outcome → State → Prop} {XC : String → State → State → Prop} {free : Addr → Prop} {Ts : List Cond} {own C : String} {b : Addr} {As rest : List Value} {g : JFrame}
theorem vx_callBack (cb : CallB R s args own index y bytes maxL ret ws rm mc ms n) (hM : vx_Met l y ws rm Pc Qc XC mc ms free) (hbl : FrameBlind Pc) : vx_Back l R p e below s args y 3 8 (PreOf R mc ms Pc) (PostOf Qc mc ms free) (vx_Post XC mc ms free) := by
  obtain ⟨hrc, hrs, hfr, hlo, hws, hcw, -, hini, -⟩ := cb
  exact vx_back (bytes := bytes) (maxL := maxL) (ret := ret) hM hbl hrc hrs hfr hlo hws hcw (fun a' U hW => word_at hW (Or.inl (by first | rfl | simp [Cond.onTables, Cond.keeps, Cond.steady])) hini)
theorem vx_runV (S : CallFix p m c cc nL s args Ts own) (hM : vx_Met l y ws rm Pc Qc XC mc ms free) (cw : CallW R s args own C index y bytes maxL ret ws rm mc ms n) (hp : PreV s H C b Pc As)
    (hg : g.method = m) (hn : As.length = n) (hsize : g.locals.size = nL) (hstack : g.stack = As.reverse ++ .ref b :: rest) (hW : 2 * g.monitorRoom + (rest.map fun v => v.category).sum ≤ 8) (hdg : decode cc g.pc = .ok (.invokevirtual index, 3)) (hf : cells + mc ≤ R.cells ∧ slots + ms ≤ R.slots) :
    vx_Run p l e R s m args below meth c H locs cells slots mc ms g rest (Qc (Value.ref b :: As).toArray) XC free := by
  have hK : vx_Back l R p e below s args y 3 8 (PreOf R mc ms Pc) (PostOf Qc mc ms free) (vx_Post XC mc ms free) := vx_callBack cw.1 hM hp.1
  obtain ⟨⟨-, -, -, -, -, -, hcode, -, hy, hlen, hl⟩, hin, hse⟩ := cw
  obtain ⟨hx, hb, hml, ho, -⟩ := S
  obtain ⟨-, ⟨cellB, hcB, hoB, hclB⟩, hPc⟩ := hp
  intro T hT X
  rcases vx_callV X hx (C := C) (bytes := bytes) (maxL := maxL) (ret := ret) ho hl hin hse hcode hy hK (by rw [hT]; exact hcB) hoB hclB hg (hsize.trans hml.symm) (argsL := As) (rest := rest) (fun sig h => hn.trans (hlen sig h)) hstack hW (by rw [hb]; exact hdg)
    (fun vm₁ hW₁ => ⟨hf.1, hf.2, hPc (T.setVm vm₁) hT hW₁⟩) with ⟨v, vm₁, ⟨U', l2, c2, s2⟩, hW₁, X', ⟨g', mk, t, L, e1, e2, hq, h1, hL, h2, h3⟩, st⟩ | ⟨q, vm₁, ⟨U', l2, c2, s2⟩, hW₁, X', ⟨g', mk, t, L, E, ce, e1, e2, hq, hce, hcv, hcl, h1, hL, h2, h3⟩, st⟩
  · dsimp only [Pt.U, Pt.locs, Pt.cells, Pt.slots] at X' e1 e2 h1 h2 h3 st
    subst h1; subst h2; subst h3
    exact Or.inl ⟨v, (T.setVm vm₁).calling g' mk (Value.ref b :: As).toArray, t, U', L, hT, X', hL, e1, e2, hq, st⟩
  · dsimp only [Pt.U, Pt.locs, Pt.cells, Pt.slots] at X' e1 e2 h1 h2 h3 st hcl
    subst h1; subst h2; subst h3
    exact Or.inr ⟨q, (T.setVm vm₁).calling g' mk (Value.ref b :: As).toArray, t, U', L, E, ce, hT, X', hL, e1, e2, hq, hce, hcv, vx_cls hW₁ hcl, st⟩
theorem vx_runS (S : CallFix p m c cc nL s args Ts own) (hM : vx_Met l y ws rm Pc Qc XC mc ms free) (cw : CallB R s args own index y bytes maxL ret ws rm mc ms n ∧ (Cond.static y).before args s = true) (hp : PreS s H Pc As)
    (hg : g.method = m) (hn : As.length = n) (hsize : g.locals.size = nL) (hstack : g.stack = As.reverse ++ rest) (hW : 2 * g.monitorRoom + (rest.map fun v => v.category).sum ≤ 8) (hdg : decode cc g.pc = .ok (.invokestatic index, 3)) (hf : cells + mc ≤ R.cells ∧ slots + ms ≤ R.slots) :
    vx_Run p l e R s m args below meth c H locs cells slots mc ms g rest (Qc As.toArray) XC free := by
  have hK : vx_Back l R p e below s args y 3 8 (PreOf R mc ms Pc) (PostOf Qc mc ms free) (vx_Post XC mc ms free) := vx_callBack cw.1 hM hp.1
  obtain ⟨⟨-, -, -, -, -, -, hcode, hini, hy, hlen, hl⟩, hstt⟩ := cw
  obtain ⟨hx, hb, hml, ho, -⟩ := S
  intro T hT X
  rcases vx_callS X hx (bytes := bytes) (maxL := maxL) (ret := ret) ho hl hstt hini hcode hy hK hg (hsize.trans hml.symm) (argsL := As) (rest := rest) (fun sig h => hn.trans (hlen sig h)) hstack hW (by rw [hb]; exact hdg)
    (fun vm₁ hW₁ => ⟨hf.1, hf.2, hp.2 (T.setVm vm₁) hT hW₁⟩) with ⟨v, vm₁, ⟨U', l2, c2, s2⟩, hW₁, X', ⟨g', mk, t, L, e1, e2, hq, h1, hL, h2, h3⟩, st⟩ | ⟨q, vm₁, ⟨U', l2, c2, s2⟩, hW₁, X', ⟨g', mk, t, L, E, ce, e1, e2, hq, hce, hcv, hcl, h1, hL, h2, h3⟩, st⟩
  · dsimp only [Pt.U, Pt.locs, Pt.cells, Pt.slots] at X' e1 e2 h1 h2 h3 st
    subst h1; subst h2; subst h3
    exact Or.inl ⟨v, (T.setVm vm₁).calling g' mk As.toArray, t, U', L, hT, X', hL, e1, e2, hq, st⟩
  · dsimp only [Pt.U, Pt.locs, Pt.cells, Pt.slots] at X' e1 e2 h1 h2 h3 st hcl
    subst h1; subst h2; subst h3
    exact Or.inr ⟨q, (T.setVm vm₁).calling g' mk As.toArray, t, U', L, E, ce, hT, X', hL, e1, e2, hq, hce, hcv, vx_cls hW₁ hcl, st⟩
end Runs
section Rows
variable {p : Program} {l : Launch} {e : Env} {R : Room} {s : State} {m : MethodId} {args : Array Value} {below : List Frame} {meth : Method} {c : Code} {H : Heap} {locs : List Loc} {cells slots : Nat} {Q : State → Prop}
variable {mc ms : Nat} {free : Addr → Prop} {A0 A1 : Nat → Prop} {H0 : Heap} {a : Array Value} {pc : Nat} {ls : Array Slot} {st0 rest : List Value}
theorem vx_keep {st₀ t T' : State} {L : List Loc} (h0 : st₀.heap = H) (e1 : T'.heap = t.heap) (hS : va_S A0 H0 H locs) (hA : ∀ q, q < H.size → A1 q → A0 q) (hf : ∀ q, free q → A0 q) (hL : ∀ q ∈ L, free q.base) (hF : va_F A1 st₀ t) :
    H.size ≤ T'.heap.size ∧ (∀ q : Nat, q < H.size → ¬ A1 q → T'.heap[q]? = H[q]?) ∧ va_S A0 H0 T'.heap (locs ++ L) := by
  obtain ⟨hz, hk⟩ := hF
  rw [h0] at hz hk
  exact ⟨by rw [e1]; exact hz, fun q h1 h2 => by rw [e1]; exact hk q h1 h2,
    ⟨Nat.le_trans hS.1 (by rw [e1]; exact hz), fun q h1 h2 => by rw [e1, hk q (Nat.lt_of_lt_of_le h1 hS.1) (fun z => h2 (hA q (Nat.lt_of_lt_of_le h1 hS.1) z))]; exact hS.2.1 q h1 h2, fun q hq => by
      rcases List.mem_append.mp hq with h | h
      · exact hS.2.2 q h
      · exact hf _ (hL q h)⟩⟩
theorem vx_calli {S SX : Type} {post : Int32 → S → Prop} {px : SX → Prop} {B : S → State → Prop} {BX : String → SX → State → Prop} {AX : Nat → Prop} (hr : vx_Run p l e R s m args below meth c H locs cells slots mc ms (F0 m pc ls st0) rest (va_Qi post B A1 a) (vx_X px BX AX) free) (hS : va_S A0 H0 H locs) (hA : ∀ q, q < H.size → A1 q → A0 q) (hf : ∀ q, free q → A0 q) (hAX : ∀ q, q < H.size → AX q → A0 q)
    (kx : ∀ (E : String) (ce : Cell) (q9 : Addr) (u : SX) (t : State) (H1 : Heap) (locs1 : List Loc), t.heap = H1 → s.vm.Alike t.vm → px u → BX E u t → H.size ≤ H1.size → (∀ q : Nat, q < H.size → ¬ AX q → H1[q]? = H[q]?) → va_S A0 H0 H1 locs1 → H1[q9]? = some ce → ce.vm = .none → s.vm.findClass E = some ce.cls → vx_W p l e R s m args below meth c H1 locs1 (cells + mc) (slots + ms) Q (F0 m pc ls rest) q9)
    (kk : ∀ (r : Int32) (u : S) (t : State) (H1 : Heap) (locs1 : List Loc), t.heap = H1 → s.vm.Alike t.vm → post r u → B u t → H.size ≤ H1.size → (∀ q : Nat, q < H.size → ¬ A1 q → H1[q]? = H[q]?) → va_S A0 H0 H1 locs1 → W p l e R s m args below meth c H1 locs1 (cells + mc) (slots + ms) Q (F0 m (pc + 3) ls (.int r :: rest))) : W p l e R s m args below meth c H locs cells slots Q (F0 m pc ls st0) := by
  intro T hT X
  rcases hr T hT X with ⟨v, st₀, t, T', L, h0, X', hL, e1, e2, ⟨⟨r, u, hv, hp, hb⟩, hF⟩, st⟩ | ⟨q, st₀, t, T', L, E, ce, h0, X', hL, e1, e2, ⟨u, hp, hb, hF⟩, hce, hcv, hcl, st⟩
  · cases hv
    obtain ⟨k1, k2, k3⟩ := vx_keep h0 e1 hS hA hf hL hF
    obtain ⟨t2, a1, b1⟩ := kk r u t T'.heap (locs ++ L) e1.symm (by rw [← e2]; exact X'.warmed.alike) hp hb k1 k2 k3 T' rfl X'
    exact ⟨t2, st t2 a1, b1⟩
  · obtain ⟨k1, k2, k3⟩ := vx_keep h0 e1 hS hAX hf hL hF
    obtain ⟨t2, a1, b1⟩ := kx E ce q u t T'.heap (locs ++ L) e1.symm (by rw [← e2]; exact X'.warmed.alike) hp hb k1 k2 k3 (by rw [e1]; exact hce) hcv hcl T' rfl X'
    exact ⟨t2, st.trans a1, b1⟩
theorem vx_calll {S SX : Type} {post : Int64 → S → Prop} {px : SX → Prop} {B : S → State → Prop} {BX : String → SX → State → Prop} {AX : Nat → Prop} (hr : vx_Run p l e R s m args below meth c H locs cells slots mc ms (F0 m pc ls st0) rest (va_Ql post B A1 a) (vx_X px BX AX) free) (hS : va_S A0 H0 H locs) (hA : ∀ q, q < H.size → A1 q → A0 q) (hf : ∀ q, free q → A0 q) (hAX : ∀ q, q < H.size → AX q → A0 q)
    (kx : ∀ (E : String) (ce : Cell) (q9 : Addr) (u : SX) (t : State) (H1 : Heap) (locs1 : List Loc), t.heap = H1 → s.vm.Alike t.vm → px u → BX E u t → H.size ≤ H1.size → (∀ q : Nat, q < H.size → ¬ AX q → H1[q]? = H[q]?) → va_S A0 H0 H1 locs1 → H1[q9]? = some ce → ce.vm = .none → s.vm.findClass E = some ce.cls → vx_W p l e R s m args below meth c H1 locs1 (cells + mc) (slots + ms) Q (F0 m pc ls rest) q9)
    (kk : ∀ (r : Int64) (u : S) (t : State) (H1 : Heap) (locs1 : List Loc), t.heap = H1 → s.vm.Alike t.vm → post r u → B u t → H.size ≤ H1.size → (∀ q : Nat, q < H.size → ¬ A1 q → H1[q]? = H[q]?) → va_S A0 H0 H1 locs1 → W p l e R s m args below meth c H1 locs1 (cells + mc) (slots + ms) Q (F0 m (pc + 3) ls (.long r :: rest))) : W p l e R s m args below meth c H locs cells slots Q (F0 m pc ls st0) := by
  intro T hT X
  rcases hr T hT X with ⟨v, st₀, t, T', L, h0, X', hL, e1, e2, ⟨⟨r, u, hv, hp, hb⟩, hF⟩, st⟩ | ⟨q, st₀, t, T', L, E, ce, h0, X', hL, e1, e2, ⟨u, hp, hb, hF⟩, hce, hcv, hcl, st⟩
  · cases hv
    obtain ⟨k1, k2, k3⟩ := vx_keep h0 e1 hS hA hf hL hF
    obtain ⟨t2, a1, b1⟩ := kk r u t T'.heap (locs ++ L) e1.symm (by rw [← e2]; exact X'.warmed.alike) hp hb k1 k2 k3 T' rfl X'
    exact ⟨t2, st t2 a1, b1⟩
  · obtain ⟨k1, k2, k3⟩ := vx_keep h0 e1 hS hAX hf hL hF
    obtain ⟨t2, a1, b1⟩ := kx E ce q u t T'.heap (locs ++ L) e1.symm (by rw [← e2]; exact X'.warmed.alike) hp hb k1 k2 k3 (by rw [e1]; exact hce) hcv hcl T' rfl X'
    exact ⟨t2, st.trans a1, b1⟩
theorem vx_callf {S SX : Type} {post : UInt32 → S → Prop} {px : SX → Prop} {B : S → State → Prop} {BX : String → SX → State → Prop} {AX : Nat → Prop} (hr : vx_Run p l e R s m args below meth c H locs cells slots mc ms (F0 m pc ls st0) rest (va_Qf post B A1 a) (vx_X px BX AX) free) (hS : va_S A0 H0 H locs) (hA : ∀ q, q < H.size → A1 q → A0 q) (hf : ∀ q, free q → A0 q) (hAX : ∀ q, q < H.size → AX q → A0 q)
    (kx : ∀ (E : String) (ce : Cell) (q9 : Addr) (u : SX) (t : State) (H1 : Heap) (locs1 : List Loc), t.heap = H1 → s.vm.Alike t.vm → px u → BX E u t → H.size ≤ H1.size → (∀ q : Nat, q < H.size → ¬ AX q → H1[q]? = H[q]?) → va_S A0 H0 H1 locs1 → H1[q9]? = some ce → ce.vm = .none → s.vm.findClass E = some ce.cls → vx_W p l e R s m args below meth c H1 locs1 (cells + mc) (slots + ms) Q (F0 m pc ls rest) q9)
    (kk : ∀ (r : UInt32) (u : S) (t : State) (H1 : Heap) (locs1 : List Loc), t.heap = H1 → s.vm.Alike t.vm → post r u → B u t → H.size ≤ H1.size → (∀ q : Nat, q < H.size → ¬ A1 q → H1[q]? = H[q]?) → va_S A0 H0 H1 locs1 → W p l e R s m args below meth c H1 locs1 (cells + mc) (slots + ms) Q (F0 m (pc + 3) ls (.float r :: rest))) : W p l e R s m args below meth c H locs cells slots Q (F0 m pc ls st0) := by
  intro T hT X
  rcases hr T hT X with ⟨v, st₀, t, T', L, h0, X', hL, e1, e2, ⟨⟨r, u, hv, hp, hb⟩, hF⟩, st⟩ | ⟨q, st₀, t, T', L, E, ce, h0, X', hL, e1, e2, ⟨u, hp, hb, hF⟩, hce, hcv, hcl, st⟩
  · cases hv
    obtain ⟨k1, k2, k3⟩ := vx_keep h0 e1 hS hA hf hL hF
    obtain ⟨t2, a1, b1⟩ := kk r u t T'.heap (locs ++ L) e1.symm (by rw [← e2]; exact X'.warmed.alike) hp hb k1 k2 k3 T' rfl X'
    exact ⟨t2, st t2 a1, b1⟩
  · obtain ⟨k1, k2, k3⟩ := vx_keep h0 e1 hS hAX hf hL hF
    obtain ⟨t2, a1, b1⟩ := kx E ce q u t T'.heap (locs ++ L) e1.symm (by rw [← e2]; exact X'.warmed.alike) hp hb k1 k2 k3 (by rw [e1]; exact hce) hcv hcl T' rfl X'
    exact ⟨t2, st.trans a1, b1⟩
theorem vx_calld {S SX : Type} {post : UInt64 → S → Prop} {px : SX → Prop} {B : S → State → Prop} {BX : String → SX → State → Prop} {AX : Nat → Prop} (hr : vx_Run p l e R s m args below meth c H locs cells slots mc ms (F0 m pc ls st0) rest (va_Qd post B A1 a) (vx_X px BX AX) free) (hS : va_S A0 H0 H locs) (hA : ∀ q, q < H.size → A1 q → A0 q) (hf : ∀ q, free q → A0 q) (hAX : ∀ q, q < H.size → AX q → A0 q)
    (kx : ∀ (E : String) (ce : Cell) (q9 : Addr) (u : SX) (t : State) (H1 : Heap) (locs1 : List Loc), t.heap = H1 → s.vm.Alike t.vm → px u → BX E u t → H.size ≤ H1.size → (∀ q : Nat, q < H.size → ¬ AX q → H1[q]? = H[q]?) → va_S A0 H0 H1 locs1 → H1[q9]? = some ce → ce.vm = .none → s.vm.findClass E = some ce.cls → vx_W p l e R s m args below meth c H1 locs1 (cells + mc) (slots + ms) Q (F0 m pc ls rest) q9)
    (kk : ∀ (r : UInt64) (u : S) (t : State) (H1 : Heap) (locs1 : List Loc), t.heap = H1 → s.vm.Alike t.vm → post r u → B u t → H.size ≤ H1.size → (∀ q : Nat, q < H.size → ¬ A1 q → H1[q]? = H[q]?) → va_S A0 H0 H1 locs1 → W p l e R s m args below meth c H1 locs1 (cells + mc) (slots + ms) Q (F0 m (pc + 3) ls (.double r :: rest))) : W p l e R s m args below meth c H locs cells slots Q (F0 m pc ls st0) := by
  intro T hT X
  rcases hr T hT X with ⟨v, st₀, t, T', L, h0, X', hL, e1, e2, ⟨⟨r, u, hv, hp, hb⟩, hF⟩, st⟩ | ⟨q, st₀, t, T', L, E, ce, h0, X', hL, e1, e2, ⟨u, hp, hb, hF⟩, hce, hcv, hcl, st⟩
  · cases hv
    obtain ⟨k1, k2, k3⟩ := vx_keep h0 e1 hS hA hf hL hF
    obtain ⟨t2, a1, b1⟩ := kk r u t T'.heap (locs ++ L) e1.symm (by rw [← e2]; exact X'.warmed.alike) hp hb k1 k2 k3 T' rfl X'
    exact ⟨t2, st t2 a1, b1⟩
  · obtain ⟨k1, k2, k3⟩ := vx_keep h0 e1 hS hAX hf hL hF
    obtain ⟨t2, a1, b1⟩ := kx E ce q u t T'.heap (locs ++ L) e1.symm (by rw [← e2]; exact X'.warmed.alike) hp hb k1 k2 k3 (by rw [e1]; exact hce) hcv hcl T' rfl X'
    exact ⟨t2, st.trans a1, b1⟩
theorem vx_callv {S SX : Type} {post : S → Prop} {px : SX → Prop} {B : S → State → Prop} {BX : String → SX → State → Prop} {AX : Nat → Prop} (hr : vx_Run p l e R s m args below meth c H locs cells slots mc ms (F0 m pc ls st0) rest (va_Qv post B A1 a) (vx_X px BX AX) free) (hS : va_S A0 H0 H locs) (hA : ∀ q, q < H.size → A1 q → A0 q) (hf : ∀ q, free q → A0 q) (hAX : ∀ q, q < H.size → AX q → A0 q)
    (kx : ∀ (E : String) (ce : Cell) (q9 : Addr) (u : SX) (t : State) (H1 : Heap) (locs1 : List Loc), t.heap = H1 → s.vm.Alike t.vm → px u → BX E u t → H.size ≤ H1.size → (∀ q : Nat, q < H.size → ¬ AX q → H1[q]? = H[q]?) → va_S A0 H0 H1 locs1 → H1[q9]? = some ce → ce.vm = .none → s.vm.findClass E = some ce.cls → vx_W p l e R s m args below meth c H1 locs1 (cells + mc) (slots + ms) Q (F0 m pc ls rest) q9)
    (kk : ∀ (u : S) (t : State) (H1 : Heap) (locs1 : List Loc), t.heap = H1 → s.vm.Alike t.vm → post u → B u t → H.size ≤ H1.size → (∀ q : Nat, q < H.size → ¬ A1 q → H1[q]? = H[q]?) → va_S A0 H0 H1 locs1 → W p l e R s m args below meth c H1 locs1 (cells + mc) (slots + ms) Q (F0 m (pc + 3) ls (rest))) : W p l e R s m args below meth c H locs cells slots Q (F0 m pc ls st0) := by
  intro T hT X
  rcases hr T hT X with ⟨v, st₀, t, T', L, h0, X', hL, e1, e2, ⟨⟨u, hv, hp, hb⟩, hF⟩, st⟩ | ⟨q, st₀, t, T', L, E, ce, h0, X', hL, e1, e2, ⟨u, hp, hb, hF⟩, hce, hcv, hcl, st⟩
  · cases hv
    obtain ⟨k1, k2, k3⟩ := vx_keep h0 e1 hS hA hf hL hF
    obtain ⟨t2, a1, b1⟩ := kk u t T'.heap (locs ++ L) e1.symm (by rw [← e2]; exact X'.warmed.alike) hp hb k1 k2 k3 T' rfl X'
    exact ⟨t2, st t2 a1, b1⟩
  · obtain ⟨k1, k2, k3⟩ := vx_keep h0 e1 hS hAX hf hL hF
    obtain ⟨t2, a1, b1⟩ := kx E ce q u t T'.heap (locs ++ L) e1.symm (by rw [← e2]; exact X'.warmed.alike) hp hb k1 k2 k3 (by rw [e1]; exact hce) hcv hcl T' rfl X'
    exact ⟨t2, st.trans a1, b1⟩
/-- caught by the row x of this method's table; the rows ahead don't take it -/
theorem vx_catch {own name : String} {E : String} {ce : Cell} {q : Addr} (hown : s.vm.findClass own = some m.cls) (pre : List ExceptionTableEntry) (x : ExceptionTableEntry) (suf : List ExceptionTableEntry) (hsplit : c.exceptionTable.toList = pre ++ x :: suf)
    (hpass : ∀ z ∈ pre, covers z pc = false ∨ (z.catchType ≠ 0 ∧ ∃ nm : String, (Cond.classLink own z.catchType nm).before args s = true ∧ va_Nc E nm s)) (hx : covers x pc = true) (h0 : x.catchType ≠ 0)
    (hlink : (Cond.classLink own x.catchType name).before args s = true) (hcast : (Cond.castable E name).before args s = true) (hcell : H[q]? = some ce) (hv : ce.vm = .none) (hcl : s.vm.findClass E = some ce.cls)
    (kk : W p l e R s m args below meth c H locs cells slots Q (F0 m x.handlerPc ls [.ref q])) : vx_W p l e R s m args below meth c H locs cells slots Q (F0 m pc ls rest) q := by
  intro T hT X
  have hpl : e.platform.magicAccessors = ({} : Platform).magicAccessors := by rw [X.admits.platform]
  obtain ⟨c3, c4, hc3, hc4, hasg⟩ := Cond.castable_spec hcast
  cases Option.some.inj (hc3.symm.trans hcl)
  obtain ⟨c5, hc5, hcl5⟩ := Cond.classLink_spec hown hlink e.platform hpl
  cases Option.some.inj (hc4.symm.trans hc5)
  obtain ⟨vm', X', st⟩ := X.thenCaughtThrough q (g := F0 m pc ls rest) rfl (Steps.refl _) (by rw [hT]; exact hcell) (by rw [hv]; rfl) (by obtain ⟨k9, h9, -⟩ := Vm.findClass_spec hcl; exact ⟨k9, h9⟩) pre x suf hsplit
    (fun z hz => by
      rcases hpass z hz with h | ⟨hz0, nm, hl1, hn1⟩
      · exact Or.inl h
      · obtain ⟨c6, hc6, hcl6⟩ := Cond.classLink_spec hown hl1 e.platform hpl
        obtain ⟨a8, b8, h1, h2, h3⟩ := hn1
        cases Option.some.inj (h1.symm.trans hcl)
        cases Option.some.inj (h2.symm.trans hc6)
        exact Or.inr ⟨hz0, _, hcl6, h3⟩) hx (Or.inr ⟨h0, c4, hcl5, hasg⟩)
  obtain ⟨t, a1, b1⟩ := kk (T.setVm vm') hT X'
  exact ⟨t, st.trans a1, b1⟩
end Rows
section Ends
variable {p : Program} {l : Launch} {e : Env} {R : Room} {s : State} {m : MethodId} {args : Array Value} {below : List Frame} {meth : Method} {c : Code} {H : Heap} {locs : List Loc} {cells slots : Nat} {Q : State → Prop}
variable {mc ms : Nat} {free : Addr → Prop} {A0 A1 : Nat → Prop} {H0 : Heap} {a : Array Value} {ls : Array Slot} {st0 rest : List Value}
variable {Qc : Array Value → State → Outcome → State → Prop} {XC : String → State → State → Prop}
/-- what a body that may throw owes at its end -/
def vx_MQ (below : List Frame) (Qc : Array Value → State → Outcome → State → Prop) (XC : String → State → State → Prop) (a : Array Value) (s : State) (mc ms : Nat) (free : Addr → Prop) : State → Prop := fun t =>
  ∃ o, t.status = .running ∧ Ended t below o ∧ vx_Q Qc XC mc ms free a s o t
theorem vx_ret {g : JFrame} {mc ms : Nat} (k : W p l e R s m args below meth c H locs cells slots (MQ below Qc args s mc ms free) g) : W p l e R s m args below meth c H locs cells slots (vx_MQ below Qc XC args s mc ms free) g := by
  intro T hT X
  obtain ⟨t, a1, o, b1, b2, b3, b4⟩ := k T hT X
  exact ⟨t, a1, o, b1, b2, Or.inl ⟨b3, b4⟩⟩
/-- not caught here: it goes on to the caller -/
theorem vx_widen {g : JFrame} {q : Addr} {k n : Nat} (h1 : cells ≤ k) (h2 : slots ≤ n) (kk : vx_W p l e R s m args below meth c H locs k n Q g q) : vx_W p l e R s m args below meth c H locs cells slots Q g q := fun T hT X => kk T hT (stand_widen X h1 h2)
theorem vx_out {pc : Nat} {E : String} {ce : Cell} {q : Addr} {mc ms : Nat} (hout : ∀ x ∈ c.exceptionTable.toList, covers x pc = false) (hlocks : meth.locks = false) (hcell : H[q]? = some ce) (hv : ce.vm = .none) (hcl : s.vm.findClass E = some ce.cls)
    (hx : ∀ t : State, t.heap = H → s.vm.Alike t.vm → XC E s t) (hf : ∀ z ∈ locs, free z.base) (hc : cells ≤ mc) (hs : slots ≤ ms) :
    vx_W p l e R s m args below meth c H locs cells slots (vx_MQ below Qc XC args s mc ms free) (F0 m pc ls rest) q := by
  intro T hT X
  obtain ⟨st1, hrun, hend, hW, hsm⟩ := X.leaveThrown q (g := F0 m pc ls rest) rfl rfl rfl hout hlocks
  have hcell9 : (T.setFrames (.throwing q :: below)).heap[q]? = some ce := by
    show T.heap[q]? = some ce
    rw [hT]; exact hcell
  exact ⟨_, st1, .threw q, hrun, hend, Or.inr ⟨q, rfl, E, ce, locs, hx _ hT hW.alike, hcell9, hv, hcl, hW, hsm.mono hc hs, hf⟩⟩
theorem vx_frame {U : State} {k n : Nat} (h : s.sameButNew ({ U with vm := s.vm } : State) locs k n) : s.heap.size ≤ U.heap.size ∧ ∀ q : Nat, q < s.heap.size → (∀ z ∈ locs, z.base ≠ q) → U.heap[q]? = s.heap[q]? := by
  obtain ⟨-, h2, -, -, -, h6⟩ := h
  refine ⟨h2, fun q hq hz => ?_⟩
  obtain ⟨c9, e1, e2, e3, e4⟩ := h6 q _ (Array.getElem?_eq_getElem hq)
  have hs : c9.slots = (s.heap[q]).slots := Array.ext_getElem? fun i => e4 i fun hm => hz _ hm rfl
  have h9 : c9 = s.heap[q] := by
    rw [hs] at e2
    exact e2
  have e5 : U.heap[q]? = some c9 := e1
  rw [e5, h9, Array.getElem?_eq_getElem hq]
/-- the words of a throw but the four that speak of the heap -/
def vx_no (w : Cond) : Bool := decide (w ≠ .isRef (.static Bundle.tN "UNASSIGNED_STACK" Bundle.steD)) && decide (w ≠ .isRef (.static Bundle.tN "SUPPRESSED_SENTINEL" Bundle.listD)) && decide (w ≠ .laysStatic Bundle.tN "UNASSIGNED_STACK" Bundle.steD) && decide (w ≠ .laysStatic Bundle.tN "SUPPRESSED_SENTINEL" Bundle.listD)
def vx_at0 (own : String) (ic : Nat) (X : String) (names : List String) : List Cond := (Bundle.ownAtoms0 own ic X names).filter vx_no
def vx_atS (own : String) (ic : Nat) (X : String) (names : List String) : List Cond := (Bundle.ownAtoms own ic X names).filter vx_no
/-- a word that the tables alone decide, or a good one -/
def vx_ot (w : Cond) : Bool := w.onTables || goodWord w
theorem vx_ot_at {args a' : Array Value} {s U : State} {w : Cond} (hW : s.WarmedH U.vm) (hvm : s.vm = U.vm) (hg : vx_ot w = true) (h : w.before args s = true) : w.before a' U = true := by
  simp only [vx_ot, Bool.or_eq_true] at hg
  rcases hg with hg | hg
  · exact va_tabs hg hvm h
  · exact word_at hW (good_of_word hg) h
/-- a list's words: the good ones out of the method's own list, the others by premises of their own -/
theorem vx_hat {args : Array Value} {s : State} {L B : List Cond} (h1 : ∀ w ∈ L.filter goodWord, w.before args s = true) (h2 : ∀ w ∈ L.filter (fun w => !goodWord w), w ∈ B) (h3 : ∀ w ∈ B, w.before args s = true) : ∀ w ∈ L, w.before args s = true := by
  intro w hw
  by_cases g : goodWord w = true
  · exact h1 w (List.mem_filter.mpr ⟨hw, g⟩)
  · refine h3 w (h2 w (List.mem_filter.mpr ⟨hw, ?_⟩))
    show (!goodWord w) = true
    cases hgw : goodWord w
    · rfl
    · exact absurd hgw g
theorem vx_c {args : Array Value} {s : State} {w : Cond} {B : List Cond} (h : w.before args s = true) (t : ∀ w ∈ B, w.before args s = true) : ∀ w' ∈ w :: B, w'.before args s = true := fun w' h' => (List.mem_cons.mp h').elim (fun e => by rw [e]; exact h) (t w')
theorem vx_n {args : Array Value} {s : State} : ∀ w ∈ ([] : List Cond), w.before args s = true := fun _ h => nomatch h
theorem vx_own {args : Array Value} {s : State} {L : List Cond} (h1 : ∀ w ∈ L.filter vx_no, w.before args s = true)
    (hU : (Cond.isRef (.static Bundle.tN "UNASSIGNED_STACK" Bundle.steD)).before args s = true) (hN : (Cond.isRef (.static Bundle.tN "SUPPRESSED_SENTINEL" Bundle.listD)).before args s = true)
    (lU : (Cond.laysStatic Bundle.tN "UNASSIGNED_STACK" Bundle.steD).before args s = true) (lN : (Cond.laysStatic Bundle.tN "SUPPRESSED_SENTINEL" Bundle.listD).before args s = true) : ∀ w ∈ L, w.before args s = true := by
  intro w hw
  by_cases e1 : w = .isRef (.static Bundle.tN "UNASSIGNED_STACK" Bundle.steD)
  · rw [e1]; exact hU
  · by_cases e2 : w = .isRef (.static Bundle.tN "SUPPRESSED_SENTINEL" Bundle.listD)
    · rw [e2]; exact hN
    · by_cases e3 : w = .laysStatic Bundle.tN "UNASSIGNED_STACK" Bundle.steD
      · rw [e3]; exact lU
      · by_cases e4 : w = .laysStatic Bundle.tN "SUPPRESSED_SENTINEL" Bundle.listD
        · rw [e4]; exact lN
        · exact h1 w (List.mem_filter.mpr ⟨hw, by unfold vx_no; rw [decide_eq_true e1, decide_eq_true e2, decide_eq_true e3, decide_eq_true e4]; rfl⟩)
/-- where a static field lies, its class's statics cell in H -/
def vx_L (C n d : String) (A : Nat → Prop) (U : State) (H : Heap) : Prop := ∃ (c : ClassId) (k : Class) (i : Nat) (f : Field) (a : Nat) (cell : Cell), U.vm.findClass C = some c ∧ U.fieldFound? C n d = some (c, k, i, f) ∧ f.isStatic = true ∧ k.statics = some a ∧ H[a]? = some cell ∧ cell.vm.isStatics = true ∧ cell.cls = c ∧ f.slot < cell.slots.size ∧ k.staticTypes[f.slot]? = some f.type ∧ ¬ A a
theorem vx_L.moved {C n d : String} {A : Nat → Prop} {u U : State} {H : Heap} (hvm : u.vm.Alike U.vm) (h : vx_L C n d A u H) : vx_L C n d A U H := by
  obtain ⟨c, k, i, f, a, cell, h1, h2, h3, h4, h5, h6, h7, h8, h9, h10⟩ := h
  obtain ⟨k', hi', he⟩ := State.fieldFound?_setVm hvm h2
  exact ⟨c, k', i, f, a, cell, by rw [hvm.findClass]; exact h1, hi', h3, by rw [he]; exact h4, h5, h6, h7, h8, by rw [he]; exact h9, h10⟩
theorem vx_L.kept {C n d : String} {A : Nat → Prop} {U : State} {H H1 : Heap} (h : vx_L C n d A U H) (hq : ∀ a : Nat, a < H.size → ¬ A a → H1[a]? = H[a]?) : vx_L C n d A U H1 := by
  obtain ⟨c, k, i, f, a, cell, h1, h2, h3, h4, h5, h6, h7, h8, h9, h10⟩ := h
  exact ⟨c, k, i, f, a, cell, h1, h2, h3, h4, by rw [hq a (Array.getElem?_eq_some_iff.mp h5).1 h10]; exact h5, h6, h7, h8, h9, h10⟩
theorem vx_L.narrow {C n d : String} {A B : Nat → Prop} {U : State} {H : Heap} (h : vx_L C n d A U H) (hAB : ∀ q, B q → A q) : vx_L C n d B U H := by
  obtain ⟨c, k, i, f, a, cell, h1, h2, h3, h4, h5, h6, h7, h8, h9, h10⟩ := h
  exact ⟨c, k, i, f, a, cell, h1, h2, h3, h4, h5, h6, h7, h8, h9, fun z => h10 (hAB _ z)⟩
theorem vx_L.word {C n d : String} {A : Nat → Prop} {s : State} {args : Array Value} (h : vx_L C n d A s s.heap) : (Cond.laysStatic C n d).before args s = true := by
  obtain ⟨c, k, i, f, a, cell, h1, h2, h3, h4, h5, h6, h7, h8, h9, -⟩ := h
  show (Cond.laysStatic C n d).holds args s none s [] = true
  exact Cond.laysStatic_of h1 h2 h3 h4 h5 h6 h7 h8 h9
/-- .. and what it holds: null or some reference -/
def vx_Zq (C n d : String) (A : Nat → Prop) (U : State) (H : Heap) : Prop := va_Zq C n d A U H ∧ vx_L C n d A U H
theorem vx_Zq.moved {C n d : String} {A : Nat → Prop} {u U : State} {H : Heap} (hvm : u.vm.Alike U.vm) (h : vx_Zq C n d A u H) : vx_Zq C n d A U H := ⟨va_Zq.moved hvm h.1, vx_L.moved hvm h.2⟩
theorem vx_Zq.kept {C n d : String} {A : Nat → Prop} {U : State} {H H1 : Heap} (h : vx_Zq C n d A U H) (hq : ∀ a : Nat, a < H.size → ¬ A a → H1[a]? = H[a]?) : vx_Zq C n d A U H1 := ⟨va_Zq.kept h.1 hq, vx_L.kept h.2 hq⟩
theorem vx_Zq.narrow {C n d : String} {A B : Nat → Prop} {U : State} {H : Heap} (h : vx_Zq C n d A U H) (hAB : ∀ q, B q → A q) : vx_Zq C n d B U H := ⟨va_Zq.narrow h.1 hAB, vx_L.narrow h.2 hAB⟩
theorem vx_Zqof {args : Array Value} {s : State} {C n d : String} {A : Nat → Prop} (hl : (Cond.laysStatic C n d).before args s = true) (hini : (Cond.initialized C).before args s = true) (h : (Cond.isRef (.static C n d)).before args s = true) (hA : ∀ a : Nat, a < s.heap.size → ¬ A a) : vx_Zq C n d A s s.heap := by
  refine ⟨va_Zqof hl hini h hA, ?_⟩
  obtain ⟨c, k, i, f, a, cell, h1, h2, h3, h4, h5, h6, h7, h8, h9⟩ := Cond.laysStatic_spec hl
  exact ⟨c, k, i, f, a, cell, h1, h2, h3, h4, h5, h6, h7, h8, h9, hA a (Array.getElem?_eq_some_iff.mp h5).1⟩
theorem vx_isRef {C n d : String} {v : Value} {A : Nat → Prop} {s : State} {args : Array Value} (h : va_Z C n d v A s s.heap) (hv : v.isRef = true) : (Cond.isRef (.static C n d)).before args s = true := by
  obtain ⟨cf, kf, fi, f, a, cell, h1, h2, h3, h4, h5, h6, h7, -⟩ := h
  have he : (Term.static C n d).eval args s none [] s = some v := by
    simp [Term.eval, State.fieldNamed?, h1, h2, h4, h5, h6, h7]
  simp only [Cond.before, Cond.holds, Cond.value, he]
  cases v <;> simp_all [Value.isRef]
theorem vx_isRefq {C n d : String} {A : Nat → Prop} {s : State} {args : Array Value} (h : va_Zq C n d A s s.heap) : (Cond.isRef (.static C n d)).before args s = true := by
  rcases h with h | ⟨t, h⟩
  · exact vx_isRef h rfl
  · exact vx_isRef h rfl
/-- the same frame, seen from here: as if the method were called anew in this heap -/
theorem vx_rebase {T : State} (X : Stand p l e R s m args below meth c T locs cells slots) {R' : Room} (hf : R'.frames ≤ R.frames) (hl : R'.locals ≤ R.locals) (hc : cells + R'.cells ≤ R.cells) (hs : slots + R'.slots ≤ R.slots) :
    Stand p l e R' ((T.setVm s.vm).setFrames (.invoking m args :: below)) m args below meth c T [] 0 0 := by
  have htop : (T.setVm s.vm).topJava?.isSome := X.here.top
  have hF : ((T.setVm s.vm).setFrames (.invoking m args :: below)).frames = .invoking m args :: below := State.frames_setFrames _ (State.cur_lt_of_top htop)
  obtain ⟨g₀, hg0⟩ := Option.isSome_iff_exists.mp htop
  obtain ⟨r, hr⟩ := State.topJava?_eq_some.mp hg0
  have hl9 : e.platform.stackLimits (T.setVm s.vm).me = e.platform.stackLimits s.me := X.limits
  have hb9 : (T.setVm s.vm).me.stackBytes = s.me.stackBytes := X.bytes
  refine ⟨X.admits, X.cas, X.clock, hF, ?_, X.hears, X.method, X.code, X.here, X.tail, X.warmed, ?_, ?_, ?_⟩
  · have h := X.room
    have hU : ((T.setVm s.vm).setFrames (.invoking m args :: below)).localsInUse = s.localsInUse := by
      rw [State.localsInUse_invoking hF (meth := meth) (c := c) X.method X.code, State.localsInUse_invoking X.frames X.method X.code]
    simp only [State.hasRoom, Bool.and_eq_true, decide_eq_true_eq] at h ⊢
    obtain ⟨⟨⟨⟨h1, h2, h3, h4, h5, h6⟩, h7⟩, h8⟩, h9⟩ := h
    rw [X.frames, List.length_cons] at h2 h3
    have q1 := X.heapSize
    have q2 := X.used
    simp only [hF, hU, List.length_cons, State.stackLimits_setFrames, State.stackBytes_setFrames, hl9, hb9]
    refine ⟨⟨⟨⟨by omega, by omega, by omega, by omega, by omega, h6⟩, ?_⟩, ?_⟩, X.book⟩
    · show T.heap.size + R'.cells ≤ e.platform.maxCells
      omega
    · show T.slotsUsed + R'.slots ≤ e.platform.maxSlots
      omega
  · rw [State.stackLimits_setFrames]; rfl
  · rw [State.stackBytes_setFrames]; rfl
  · refine ⟨?_, Nat.le_refl _, Nat.le_refl _, ?_, ?_, fun a c9 h9 => ⟨c9, h9, rfl, rfl, fun _ _ => rfl⟩⟩
    · obtain ⟨t, ht, -⟩ := State.frames_cons hr
      show T.setVm s.vm = { ((T.setVm s.vm).setFrames (.invoking m args :: below)).setFrames (T.setVm s.vm).frames with heap := T.heap, slotsUsed := T.slotsUsed }
      rw [State.setFrames_setFrames, State.setFrames_self ht]
      rfl
    · show T.slotsUsed = T.slotsUsed + ((T.heap.toList.drop T.heap.size).map (·.slots.size)).sum
      rw [List.drop_eq_nil_of_le (Nat.le_of_eq Array.length_toList)]
      rfl
    · show ((T.heap.toList.drop T.heap.size).map (·.slots.size)).sum ≤ 0
      rw [List.drop_eq_nil_of_le (Nat.le_of_eq Array.length_toList)]
      exact Nat.le_refl _
/-- 'throw new E()': new; dup; invokespecial; athrow -/
theorem vx_throw0 {cc : ByteArray} {pc : Nat} (hexec : p.tables.exec = Jvm.exec) (hb : c.code = cc) (hl : l.stackTraces = false) {own cls : String} {names : List String} {ik ic mc ms : Nat} {A : Nat → Prop}
    (hown : s.vm.findClass own = some m.cls) (hcls : Bundle.fit cls = true) (hnames : ∀ n ∈ names, Bundle.fit n = true)
    (hk : (Cond.classLink own ik cls).before args s = true) (hini : (Cond.initialized cls).before args s = true) (hat : ∀ w ∈ vx_at0 own ic cls names, w.before args s = true)
    (hgood : ∀ w ∈ Cond.classLink own ik cls :: Cond.initialized cls :: vx_at0 own ic cls names, vx_ot w = true)
    (hU : vx_Zq Bundle.tN "UNASSIGNED_STACK" Bundle.steD A s s.heap) (hN : vx_Zq Bundle.tN "SUPPRESSED_SENTINEL" Bundle.listD A s s.heap) (hS : va_S A s.heap H locs) (hsize : ls.size = c.maxLocals)
    (d0 : decode cc pc = .ok (.new ik, 3)) (d3 : decode cc (pc + 3) = .ok (.dup, 1)) (d4 : decode cc (pc + 4) = .ok (.invokespecial ic, 3)) (d7 : decode cc (pc + 7) = .ok (.athrow, 1))
    (hout : ∀ x ∈ c.exceptionTable.toList, covers x (pc + 7) = false)
    (hRframes : names.length + 3 < R.frames) (hRlocals : (rest.map fun v => v.category).sum + (13 * (names.length + 1) + 42) ≤ R.locals) (hRcells : cells + 1 ≤ R.cells) (hRslots : slots + 6 ≤ R.slots) (hlocks : meth.locks = false)
    (hx : ∀ t : State, s.vm.Alike t.vm → H.size ≤ t.heap.size → (∀ q : Nat, q < H.size → t.heap[q]? = H[q]?) → XC cls s t)
    (hf : ∀ z ∈ locs, free z.base) (hc : cells + 1 ≤ mc) (hs : slots + 6 ≤ ms) :
    W p l e R s m args below meth c H locs cells slots (vx_MQ below Qc XC args s mc ms free) (F0 m pc ls rest) := by
  intro T hT X
  have htr : e.platform.stackTraces = false := (show e.platform.stackTraces = l.stackTraces by rw [X.admits.platform]).trans hl
  have Y := vx_rebase X (R' := { frames := R.frames, locals := R.locals, cells := 1, slots := 6 }) (Nat.le_refl _) (Nat.le_refl _) hRcells hRslots
  obtain ⟨s', hA⟩ : ∃ z, z = (T.setVm s.vm).setFrames (.invoking m args :: below) := ⟨_, rfl⟩
  rw [← hA] at Y
  have hvm : s'.vm = s.vm := by rw [hA]; rfl
  have hhp : s'.heap = H := by rw [hA]; exact hT
  have hW0 : s.WarmedH s'.vm := by rw [hvm]; exact State.WarmedH.refl s
  have hat' : ∀ w ∈ vx_at0 own ic cls names, w.before args s' = true := fun w hw => vx_ot_at hW0 hvm.symm (hgood w (List.mem_cons_of_mem _ (List.mem_cons_of_mem _ hw))) (hat w hw)
  have hk' : (Cond.classLink own ik cls).before args s' = true := vx_ot_at hW0 hvm.symm (hgood _ List.mem_cons_self) hk
  have hini' : (Cond.initialized cls).before args s' = true := vx_ot_at hW0 hvm.symm (hgood _ (List.mem_cons_of_mem _ List.mem_cons_self)) hini
  have hU' : vx_Zq Bundle.tN "UNASSIGNED_STACK" Bundle.steD A s' s'.heap := by rw [hhp]; exact vx_Zq.moved hW0.alike (hU.kept hS.2.1)
  have hN' : vx_Zq Bundle.tN "SUPPRESSED_SENTINEL" Bundle.listD A s' s'.heap := by rw [hhp]; exact vx_Zq.moved hW0.alike (hN.kept hS.2.1)
  have h : ∀ w ∈ Bundle.ownAtoms0 own ic cls names, w.before args s' = true := vx_own hat' (vx_isRefq hU'.1) (vx_isRefq hN'.1) hU'.2.word hN'.2.word
  have hown' : s'.vm.findClass own = some m.cls := by rw [hvm]; exact hown
  have hins : (Cond.instantiable cls 6).before args s' = true := h _ (by simp [Bundle.ownAtoms0])
  obtain ⟨vm₁, cX, kX, hfX, hkX, -, -, X₁, st1⟩ := Y.newCold hexec (own := own) (C := cls) (index := ik) (n := 6) hown' hk' hins hini'
    (g := F0 m pc ls rest) rfl (by rw [hb]; exact d0) (Nat.le_refl _) (Nat.le_refl _)
  generalize hT1 : (T.setVm vm₁).pushCell { cls := cX, slots := kX.instanceTypes.map defaultValue, vm := .none } = T1 at X₁ st1
  have hcat : (Value.ref T.heap.size).category = 1 := rfl
  have hcellA : T1.heap[T.heap.size]? = some (freshCell cX kX) := by rw [← hT1]; exact State.heap_pushCell_size _ _
  have d3' : decode c.code (pc + 3) = .ok (.dup, 1) := by rw [hb]; exact d3
  obtain ⟨U, hsteps, hrun, hend, hW, hsame, ce, hce, hO⟩ := X₁.ctorThrow0 hexec htr (own := own) (cls := cls) (names := names) (ic := ic) hown' hcls hnames h (fun x hx => nomatch hx) hfX hkX hcellA (by rw [hhp, hT]; exact Nat.le_refl _)
    (g := { method := m, pc := pc + 4, locals := ls, stack := .ref T.heap.size :: .ref T.heap.size :: rest, locked := none }) rfl hsize rfl rfl (rest := rest) rfl
    (by rw [hb]; exact d4) (by rw [hb]; exact d7) hout hRframes (by simp only [List.map_cons, List.sum_cons, hcat]; omega) hlocks
  obtain ⟨f1, f2⟩ := vx_frame hsame
  rw [hhp] at f1 f2
  have hWs : s.WarmedH U.vm := State.WarmedH.trans hW0 hW
  have hcl : s.vm.findClass cls = some ce.cls := by
    have h9 := hO.cls
    rw [hvm] at h9
    exact h9
  have hall : s.sameButNew ({ U with vm := s.vm } : State) locs mc ms := by
    subst hA
    obtain ⟨e1, e2⟩ := hsame
    rw [State.setFrames_setFrames] at e1
    have h2 : (T.setVm s.vm).sameButNew ({ U with vm := s.vm } : State) [] (0 + 1) (0 + 6) := ⟨e1, e2⟩
    have h3 := X.same.trans h2
    rw [List.append_nil] at h3
    exact h3.mono hc hs
  refine ⟨U, ?_, .threw T.heap.size, hrun, hend, Or.inr ⟨T.heap.size, rfl, cls, ce, locs, hx U hWs.alike f1 (fun q hq => f2 q hq (fun z hz => nomatch hz)), hce, hO.vm, hcl, hWs, hall, hf⟩⟩
  refine st1 _ ?_
  show Steps p.tables e below (T1.setTop { method := m, pc := pc + 3, locals := ls, stack := .ref T.heap.size :: rest, locked := none }) _
  jvm_step X₁.here [X₁.here.top, hexec, d3', Value.category]
  exact hsteps
/-- 'throw new E("text")': new; dup; ldc; invokespecial; athrow -/
theorem vx_throwS {cc : ByteArray} {pc : Nat} (hexec : p.tables.exec = Jvm.exec) (hb : c.code = cc) (hl : l.stackTraces = false) {own cls text : String} {names : List String} {ik is ic mc ms sa : Nat} {A : Nat → Prop}
    (hown : s.vm.findClass own = some m.cls) (hcls : Bundle.fit cls = true) (hnames : ∀ n ∈ names, Bundle.fit n = true)
    (hk : (Cond.classLink own ik cls).before args s = true) (hini : (Cond.initialized cls).before args s = true) (hstr : vk_R own is text sa s) (hat : ∀ w ∈ vx_atS own ic cls names, w.before args s = true)
    (hgood : ∀ w ∈ Cond.classLink own ik cls :: Cond.initialized cls :: vx_atS own ic cls names, vx_ot w = true)
    (hU : vx_Zq Bundle.tN "UNASSIGNED_STACK" Bundle.steD A s s.heap) (hN : vx_Zq Bundle.tN "SUPPRESSED_SENTINEL" Bundle.listD A s s.heap) (hS : va_S A s.heap H locs) (hsize : ls.size = c.maxLocals)
    (d0 : decode cc pc = .ok (.new ik, 3)) (d3 : decode cc (pc + 3) = .ok (.dup, 1)) (d4 : decode cc (pc + 4) = .ok (.ldc is, 2)) (d6 : decode cc (pc + 6) = .ok (.invokespecial ic, 3)) (d9 : decode cc (pc + 9) = .ok (.athrow, 1))
    (hout : ∀ x ∈ c.exceptionTable.toList, covers x (pc + 9) = false)
    (hRframes : names.length + 3 < R.frames) (hRlocals : (rest.map fun v => v.category).sum + (13 * (names.length + 1) + 43) ≤ R.locals) (hRcells : cells + 1 ≤ R.cells) (hRslots : slots + 6 ≤ R.slots) (hlocks : meth.locks = false)
    (hx : ∀ t : State, s.vm.Alike t.vm → H.size ≤ t.heap.size → (∀ q : Nat, q < H.size → t.heap[q]? = H[q]?) → XC cls s t)
    (hf : ∀ z ∈ locs, free z.base) (hc : cells + 1 ≤ mc) (hs : slots + 6 ≤ ms) :
    W p l e R s m args below meth c H locs cells slots (vx_MQ below Qc XC args s mc ms free) (F0 m pc ls rest) := by
  intro T hT X
  have htr : e.platform.stackTraces = false := (show e.platform.stackTraces = l.stackTraces by rw [X.admits.platform]).trans hl
  have Y := vx_rebase X (R' := { frames := R.frames, locals := R.locals, cells := 1, slots := 6 }) (Nat.le_refl _) (Nat.le_refl _) hRcells hRslots
  obtain ⟨s', hA⟩ : ∃ z, z = (T.setVm s.vm).setFrames (.invoking m args :: below) := ⟨_, rfl⟩
  rw [← hA] at Y
  have hvm : s'.vm = s.vm := by rw [hA]; rfl
  have hhp : s'.heap = H := by rw [hA]; exact hT
  have hW0 : s.WarmedH s'.vm := by rw [hvm]; exact State.WarmedH.refl s
  have hat' : ∀ w ∈ vx_atS own ic cls names, w.before args s' = true := fun w hw => vx_ot_at hW0 hvm.symm (hgood w (List.mem_cons_of_mem _ (List.mem_cons_of_mem _ hw))) (hat w hw)
  have hk' : (Cond.classLink own ik cls).before args s' = true := vx_ot_at hW0 hvm.symm (hgood _ List.mem_cons_self) hk
  have hini' : (Cond.initialized cls).before args s' = true := vx_ot_at hW0 hvm.symm (hgood _ (List.mem_cons_of_mem _ List.mem_cons_self)) hini
  have hU' : vx_Zq Bundle.tN "UNASSIGNED_STACK" Bundle.steD A s' s'.heap := by rw [hhp]; exact vx_Zq.moved hW0.alike (hU.kept hS.2.1)
  have hN' : vx_Zq Bundle.tN "SUPPRESSED_SENTINEL" Bundle.listD A s' s'.heap := by rw [hhp]; exact vx_Zq.moved hW0.alike (hN.kept hS.2.1)
  have h : ∀ w ∈ Bundle.ownAtoms own ic cls names, w.before args s' = true := vx_own hat' (vx_isRefq hU'.1) (vx_isRefq hN'.1) hU'.2.word hN'.2.word
  have hown' : s'.vm.findClass own = some m.cls := by rw [hvm]; exact hown
  have hins : (Cond.instantiable cls 6).before args s' = true := h _ (by simp [Bundle.ownAtoms])
  obtain ⟨vm₁, cX, kX, hfX, hkX, -, -, X₁, st1⟩ := Y.newCold hexec (own := own) (C := cls) (index := ik) (n := 6) hown' hk' hins hini'
    (g := F0 m pc ls rest) rfl (by rw [hb]; exact d0) (Nat.le_refl _) (Nat.le_refl _)
  generalize hT1 : (T.setVm vm₁).pushCell { cls := cX, slots := kX.instanceTypes.map defaultValue, vm := .none } = T1 at X₁ st1
  have hcat : (Value.ref T.heap.size).category = 1 := rfl
  have hcellA : T1.heap[T.heap.size]? = some (freshCell cX kX) := by rw [← hT1]; exact State.heap_pushCell_size _ _
  have d3' : decode c.code (pc + 3) = .ok (.dup, 1) := by rw [hb]; exact d3
  have d4' : decode c.code (pc + 4) = .ok (.ldc is, 2) := by rw [hb]; exact d4
  have hstr' : vk_R own is text sa s' := vk_R.warm hW0 hstr
  obtain ⟨U, hsteps, hrun, hend, hW, hsame, ce, hce, hO⟩ := X₁.ctorThrowS hexec htr (own := own) (cls := cls) (names := names) (ic := ic) hown' hcls hnames h (fun x hx => nomatch hx) hfX hkX hcellA (by rw [hhp, hT]; exact Nat.le_refl _) (msg := .ref sa) rfl
    (g := { method := m, pc := pc + 6, locals := ls, stack := .ref sa :: .ref T.heap.size :: .ref T.heap.size :: rest, locked := none }) rfl hsize rfl rfl (rest := rest) rfl
    (by rw [hb]; exact d6) (by rw [hb]; exact d9) hout hRframes (by simp only [List.map_cons, List.sum_cons, hcat]; omega) hlocks
  obtain ⟨f1, f2⟩ := vx_frame hsame
  rw [hhp] at f1 f2
  have hWs : s.WarmedH U.vm := State.WarmedH.trans hW0 hW
  have hcl : s.vm.findClass cls = some ce.cls := by
    have h9 := hO.cls
    rw [hvm] at h9
    exact h9
  have hall : s.sameButNew ({ U with vm := s.vm } : State) locs mc ms := by
    subst hA
    obtain ⟨e1, e2⟩ := hsame
    rw [State.setFrames_setFrames] at e1
    have h2 : (T.setVm s.vm).sameButNew ({ U with vm := s.vm } : State) [] (0 + 1) (0 + 6) := ⟨e1, e2⟩
    have h3 := X.same.trans h2
    rw [List.append_nil] at h3
    exact h3.mono hc hs
  refine ⟨U, ?_, .threw T.heap.size, hrun, hend, Or.inr ⟨T.heap.size, rfl, cls, ce, locs, hx U hWs.alike f1 (fun q hq => f2 q hq (fun z hz => nomatch hz)), hce, hO.vm, hcl, hWs, hall, hf⟩⟩
  refine st1 _ ?_
  show Steps p.tables e below (T1.setTop { method := m, pc := pc + 3, locals := ls, stack := .ref T.heap.size :: rest, locked := none }) _
  jvm_step X₁.here [X₁.here.top, hexec, d3', Value.category]
  exact X₁.ldcString hexec (own := own) (text := text) (index := is) (a := sa) hown' hstr'.1 hstr'.2
    (g := { method := m, pc := pc + 4, locals := ls, stack := .ref T.heap.size :: .ref T.heap.size :: rest, locked := none }) rfl d4' _ hsteps
/-- 'throw new E("text")', the text by a wide index -/
theorem vx_throwSW {cc : ByteArray} {pc : Nat} (hexec : p.tables.exec = Jvm.exec) (hb : c.code = cc) (hl : l.stackTraces = false) {own cls text : String} {names : List String} {ik is ic mc ms sa : Nat} {A : Nat → Prop}
    (hown : s.vm.findClass own = some m.cls) (hcls : Bundle.fit cls = true) (hnames : ∀ n ∈ names, Bundle.fit n = true)
    (hk : (Cond.classLink own ik cls).before args s = true) (hini : (Cond.initialized cls).before args s = true) (hstr : vk_R own is text sa s) (hat : ∀ w ∈ vx_atS own ic cls names, w.before args s = true)
    (hgood : ∀ w ∈ Cond.classLink own ik cls :: Cond.initialized cls :: vx_atS own ic cls names, vx_ot w = true)
    (hU : vx_Zq Bundle.tN "UNASSIGNED_STACK" Bundle.steD A s s.heap) (hN : vx_Zq Bundle.tN "SUPPRESSED_SENTINEL" Bundle.listD A s s.heap) (hS : va_S A s.heap H locs) (hsize : ls.size = c.maxLocals)
    (d0 : decode cc pc = .ok (.new ik, 3)) (d3 : decode cc (pc + 3) = .ok (.dup, 1)) (d4 : decode cc (pc + 4) = .ok (.ldc_w is, 3)) (d7 : decode cc (pc + 7) = .ok (.invokespecial ic, 3)) (d10 : decode cc (pc + 10) = .ok (.athrow, 1))
    (hout : ∀ x ∈ c.exceptionTable.toList, covers x (pc + 10) = false)
    (hRframes : names.length + 3 < R.frames) (hRlocals : (rest.map fun v => v.category).sum + (13 * (names.length + 1) + 43) ≤ R.locals) (hRcells : cells + 1 ≤ R.cells) (hRslots : slots + 6 ≤ R.slots) (hlocks : meth.locks = false)
    (hx : ∀ t : State, s.vm.Alike t.vm → H.size ≤ t.heap.size → (∀ q : Nat, q < H.size → t.heap[q]? = H[q]?) → XC cls s t)
    (hf : ∀ z ∈ locs, free z.base) (hc : cells + 1 ≤ mc) (hs : slots + 6 ≤ ms) :
    W p l e R s m args below meth c H locs cells slots (vx_MQ below Qc XC args s mc ms free) (F0 m pc ls rest) := by
  intro T hT X
  have htr : e.platform.stackTraces = false := (show e.platform.stackTraces = l.stackTraces by rw [X.admits.platform]).trans hl
  have Y := vx_rebase X (R' := { frames := R.frames, locals := R.locals, cells := 1, slots := 6 }) (Nat.le_refl _) (Nat.le_refl _) hRcells hRslots
  obtain ⟨s', hA⟩ : ∃ z, z = (T.setVm s.vm).setFrames (.invoking m args :: below) := ⟨_, rfl⟩
  rw [← hA] at Y
  have hvm : s'.vm = s.vm := by rw [hA]; rfl
  have hhp : s'.heap = H := by rw [hA]; exact hT
  have hW0 : s.WarmedH s'.vm := by rw [hvm]; exact State.WarmedH.refl s
  have hat' : ∀ w ∈ vx_atS own ic cls names, w.before args s' = true := fun w hw => vx_ot_at hW0 hvm.symm (hgood w (List.mem_cons_of_mem _ (List.mem_cons_of_mem _ hw))) (hat w hw)
  have hk' : (Cond.classLink own ik cls).before args s' = true := vx_ot_at hW0 hvm.symm (hgood _ List.mem_cons_self) hk
  have hini' : (Cond.initialized cls).before args s' = true := vx_ot_at hW0 hvm.symm (hgood _ (List.mem_cons_of_mem _ List.mem_cons_self)) hini
  have hU' : vx_Zq Bundle.tN "UNASSIGNED_STACK" Bundle.steD A s' s'.heap := by rw [hhp]; exact vx_Zq.moved hW0.alike (hU.kept hS.2.1)
  have hN' : vx_Zq Bundle.tN "SUPPRESSED_SENTINEL" Bundle.listD A s' s'.heap := by rw [hhp]; exact vx_Zq.moved hW0.alike (hN.kept hS.2.1)
  have h : ∀ w ∈ Bundle.ownAtoms own ic cls names, w.before args s' = true := vx_own hat' (vx_isRefq hU'.1) (vx_isRefq hN'.1) hU'.2.word hN'.2.word
  have hown' : s'.vm.findClass own = some m.cls := by rw [hvm]; exact hown
  have hins : (Cond.instantiable cls 6).before args s' = true := h _ (by simp [Bundle.ownAtoms])
  obtain ⟨vm₁, cX, kX, hfX, hkX, -, -, X₁, st1⟩ := Y.newCold hexec (own := own) (C := cls) (index := ik) (n := 6) hown' hk' hins hini'
    (g := F0 m pc ls rest) rfl (by rw [hb]; exact d0) (Nat.le_refl _) (Nat.le_refl _)
  generalize hT1 : (T.setVm vm₁).pushCell { cls := cX, slots := kX.instanceTypes.map defaultValue, vm := .none } = T1 at X₁ st1
  have hcat : (Value.ref T.heap.size).category = 1 := rfl
  have hcellA : T1.heap[T.heap.size]? = some (freshCell cX kX) := by rw [← hT1]; exact State.heap_pushCell_size _ _
  have d3' : decode c.code (pc + 3) = .ok (.dup, 1) := by rw [hb]; exact d3
  have d4' : decode c.code (pc + 4) = .ok (.ldc_w is, 3) := by rw [hb]; exact d4
  have hstr' : vk_R own is text sa s' := vk_R.warm hW0 hstr
  obtain ⟨U, hsteps, hrun, hend, hW, hsame, ce, hce, hO⟩ := X₁.ctorThrowS hexec htr (own := own) (cls := cls) (names := names) (ic := ic) hown' hcls hnames h (fun x hx => nomatch hx) hfX hkX hcellA (by rw [hhp, hT]; exact Nat.le_refl _) (msg := .ref sa) rfl
    (g := { method := m, pc := pc + 7, locals := ls, stack := .ref sa :: .ref T.heap.size :: .ref T.heap.size :: rest, locked := none }) rfl hsize rfl rfl (rest := rest) rfl
    (by rw [hb]; exact d7) (by rw [hb]; exact d10) hout hRframes (by simp only [List.map_cons, List.sum_cons, hcat]; omega) hlocks
  obtain ⟨f1, f2⟩ := vx_frame hsame
  rw [hhp] at f1 f2
  have hWs : s.WarmedH U.vm := State.WarmedH.trans hW0 hW
  have hcl : s.vm.findClass cls = some ce.cls := by
    have h9 := hO.cls
    rw [hvm] at h9
    exact h9
  have hall : s.sameButNew ({ U with vm := s.vm } : State) locs mc ms := by
    subst hA
    obtain ⟨e1, e2⟩ := hsame
    rw [State.setFrames_setFrames] at e1
    have h2 : (T.setVm s.vm).sameButNew ({ U with vm := s.vm } : State) [] (0 + 1) (0 + 6) := ⟨e1, e2⟩
    have h3 := X.same.trans h2
    rw [List.append_nil] at h3
    exact h3.mono hc hs
  refine ⟨U, ?_, .threw T.heap.size, hrun, hend, Or.inr ⟨T.heap.size, rfl, cls, ce, locs, hx U hWs.alike f1 (fun q hq => f2 q hq (fun z hz => nomatch hz)), hce, hO.vm, hcl, hWs, hall, hf⟩⟩
  refine st1 _ ?_
  show Steps p.tables e below (T1.setTop { method := m, pc := pc + 3, locals := ls, stack := .ref T.heap.size :: rest, locked := none }) _
  jvm_step X₁.here [X₁.here.top, hexec, d3', Value.category]
  exact X₁.ldcStringW hexec (own := own) (text := text) (index := is) (a := sa) hown' hstr'.1 hstr'.2
    (g := { method := m, pc := pc + 4, locals := ls, stack := .ref T.heap.size :: .ref T.heap.size :: rest, locked := none }) rfl d4' _ hsteps
end Ends
section Bodies
variable {l : Launch}
theorem vx_ofW {y : MethodName} {ws ws' : List Cond} {rm : Room} {Pc : Array Value → State → Prop} {Qc : Array Value → State → Outcome → State → Prop} {XC : String → State → State → Prop} {mc ms : Nat} {free : Addr → Prop} {cc : ByteArray} {maxL : Nat} {ret : Option FieldType}
    (hy : plainName y.cls = true) (hw : ws = Cond.code y cc maxL ret :: ws')
    (body : ∀ p e s m args below meth c s₁, BodyLoose p l y (headSpec ws rm) cc maxL ret e s m args below meth c s₁ → c.maxLocals = maxL → (∀ x ∈ c.exceptionTable.toList, False) → Pc args s →
      W p l e (headSpec ws rm).room s m args below meth c s.heap [] 0 0 (vx_MQ below Qc XC args s mc ms free) (entryFrame m args maxL)) : vx_Met l y ws rm Pc Qc XC mc ms free := by
  refine MetFree.of_bodyS (code := cc) (maxLocals := maxL) (ret := ret) hy ?_ ?_
  · intro args s m h hn
    obtain ⟨meth, c, h1, h2, h3, h4, h5, h6, -, -⟩ := Cond.code_spec hn (atoms_spec (ws := ws) h _ (by rw [hw]; exact List.mem_cons_self))
    exact ⟨meth, c, h1, h2, h3, h4, h5, h6⟩
  · intro p e s m args below meth c s₁ B hml hP _
    have hh0 : s₁.heap = s.heap := by rw [B.state]; rfl
    have ht : ∀ x ∈ c.exceptionTable.toList, False := by
      obtain ⟨meth9, c9, h1, h2, -, -, -, -, h7, -⟩ := Cond.code_spec B.named (atoms_spec (ws := ws) B.pre _ (by rw [hw]; exact List.mem_cons_self))
      cases Option.some.inj (h1.symm.trans B.method)
      cases Option.some.inj (h2.symm.trans (Stand.of_body B).code)
      intro x hx
      rw [Array.isEmpty_iff.mp h7] at hx
      cases hx
    obtain ⟨t, a1, o, b1, b2, b3⟩ := body p e s m args below meth c s₁ B hml ht hP s₁ hh0 (Stand.of_body B)
    exact ⟨t, o, a1, b1, b2, b3⟩
/-- the table of a body with handlers -/
theorem vx_table {p : Program} {x y : MethodName} {S : Spec} {cc bytes : ByteArray} {maxL maxL' : Nat} {ret ret' : Option FieldType} {e : Env} {s s₁ : State} {m : MethodId} {args : Array Value} {below : List Frame} {meth : Method} {c : Code} {hh : List (Nat × Nat × Nat × Nat)}
    (B : BodyLoose p l y S cc maxL ret e s m args below meth c s₁) (h : (Cond.codeWith y bytes maxL' ret' hh).before args s = true) : c.exceptionTable.toList = tableOf hh := by
  obtain ⟨m9, meth9, c9, hn9, h1, h2, -, -, h6, -⟩ := Cond.codeWith_spec h
  cases Option.some.inj (hn9.symm.trans B.named)
  cases Option.some.inj (h1.symm.trans B.method)
  cases Option.some.inj (h2.symm.trans (Stand.of_body B).code)
  rw [← h6, table_eq]
end Bodies
end VXA
/-! ===== END ===== -/
/-! ===== BEGIN a static call of a method with an exception table ===== -/
section VXS
variable {p : Program} {l : Launch} {e : Env} {R : Room} {s : State} {m : MethodId} {args : Array Value} {below : List Frame} {meth : Method} {c : Code} {T : State} {H : Heap} {locs : List Loc} {cells slots : Nat}
abbrev vx_CSW (R : Room) (s : State) (args : Array Value) (own : String) (index : Nat) (y : MethodName) (bytes : ByteArray) (maxL : Nat) (ret : Option FieldType) (hh : List (Nat × Nat × Nat × Nat)) (ws : List Cond) (rm : Room) (mc ms n : Nat) : Prop :=
  (rm.cells = mc ∧ rm.slots = ms ∧ rm.frames + 1 ≤ R.frames ∧ 8 + (maxL + 11) + rm.locals ≤ R.locals ∧ (∀ w ∈ ws, ∀ (a' : Array Value) (U : State), s.WarmedH U.vm → w.before a' U = true) ∧ Cond.codeWith y bytes maxL ret hh ∈ ws) ∧
  (Cond.codeWith y bytes maxL ret hh).before args s = true ∧ (Cond.initialized y.cls).before args s = true ∧ (y.cls ≠ "java/lang/invoke/MethodHandle" ∧ y.cls ≠ "java/lang/invoke/VarHandle") ∧
  (∀ sig, parseMethodDescriptor y.desc = some sig → n = sig.parameters.length) ∧ (Cond.methodLink own index y).before args s = true ∧ (Cond.static y).before args s = true
theorem vx_cwSW {own : String} {index maxL mc ms : Nat} {y : MethodName} {bytes : ByteArray} {ret : Option FieldType} {hh : List (Nat × Nat × Nat × Nat)} {Ts ws ws' : List Cond} {rm : Room} (n : Nat) (ht : ∀ w ∈ Ts, w.before args s = true) (hT : GoodIn Ts (va_wsS own index y ws)) (hw : ws = Cond.codeWith y bytes maxL ret hh :: ws') (hrc : rm.cells = mc) (hrs : rm.slots = ms)
    (hd : y.cls ≠ "java/lang/invoke/MethodHandle" ∧ y.cls ≠ "java/lang/invoke/VarHandle" ∧ (parseMethodDescriptor y.desc).map (fun d => d.parameters.length) = some n) (hR : rm.frames + 1 ≤ R.frames ∧ 8 + (maxL + 11) + rm.locals ≤ R.locals) :
    vx_CSW R s args own index y bytes maxL ret hh ws rm mc ms n := by
  have ok : ∀ w ∈ va_wsS own index y ws, w.before args s = true := fun w h => ht w (hT w h).1
  have hG : GoodIn Ts ws := fun w h => hT w (by unfold va_wsS; exact List.mem_append_right _ h)
  have hc : Cond.codeWith y bytes maxL ret hh ∈ ws := by rw [hw]; exact List.mem_cons_self
  refine ⟨⟨hrc, hrs, hR.1, hR.2, pay_in ht hG, hc⟩, ht _ (hG _ hc).1, ok _ (by simp [va_wsS]), ⟨hd.1, hd.2.1⟩, fun sig h => ?_, ok _ (by simp [va_wsS]), ok _ (by simp [va_wsS])⟩
  have h2 := hd.2.2
  rw [h] at h2
  exact (Option.some.inj h2).symm
theorem vx_callSW (X : Stand p l e R s m args below meth c T locs cells slots) (hexec : p.tables.exec = Jvm.exec) {own : String} {index : Nat} {y : MethodName} {bytes : ByteArray} {maxL : Nat} {ret : Option FieldType} {hh : List (Nat × Nat × Nat × Nat)}
    (hown : s.vm.findClass own = some m.cls) (hlink : (Cond.methodLink own index y).before args s = true) (hstat : (Cond.static y).before args s = true) (hinit : (Cond.initialized y.cls).before args s = true)
    (hcode : (Cond.codeWith y bytes maxL ret hh).before args s = true) (hy : y.cls ≠ "java/lang/invoke/MethodHandle" ∧ y.cls ≠ "java/lang/invoke/VarHandle")
    {W9 : Nat} {Pre : Pt → Array Value → Prop} {Post : Pt → Array Value → Option Value → Pt → Prop} (hK : Back l R p e below s args y 3 W9 Pre Post)
    {g : JFrame} (hg : g.method = m) (hsize : g.locals.size = c.maxLocals) {argsL rest : List Value} (hlen : ∀ sig, parseMethodDescriptor y.desc = some sig → argsL.length = sig.parameters.length)
    (hstack : g.stack = argsL.reverse ++ rest) (hW : 2 * g.monitorRoom + (rest.map fun v => v.category).sum ≤ W9) (hdg : decode c.code g.pc = .ok (.invokestatic index, 3))
    (hpre : ∀ vm₁, s.WarmedH vm₁ → Pre ⟨T.setVm vm₁, locs, cells, slots⟩ argsL.toArray) :
    ∃ (v : Option Value) (vm₁ : Vm) (B : Pt), s.WarmedH vm₁ ∧ Stand p l e R s m args below meth c B.U B.locs B.cells B.slots ∧ Post ⟨T.setVm vm₁, locs, cells, slots⟩ argsL.toArray v B ∧
      ∀ target, Steps p.tables e below (B.U.setTop { g with pc := g.pc + 3, stack := v.toList ++ rest }) target → Steps p.tables e below (T.setTop g) target := by
  obtain ⟨mk, methM, cM, hnamed, hmethM, -, -, -, -, -, -, hsigM⟩ := Cond.codeWith_spec hcode
  have hstatic : methM.isStatic = true := Cond.static_spec hnamed hmethM hstat
  obtain ⟨kP, hkP, -⟩ := className_of_methodNamed hnamed
  have hinitP : kP.init = .initialized := Cond.initialized_spec (findClass_of_methodNamed hnamed) hkP hinit
  obtain ⟨vm₁, X₁, hstep₁⟩ := X.invokestatic hexec hown hlink hnamed hmethM hstatic hkP hinitP hy (g := g) hg (argsL := argsL) (rest := rest) (hlen _ hsigM) hstack hdg
  obtain ⟨v, B, X', hpost, hsteps⟩ := hK m meth c ⟨T.setVm vm₁, locs, cells, slots⟩ { g with stack := rest } (.invokestatic index) mk argsL.toArray X₁ hg hsize hdg hW (X₁.named hnamed) (hpre vm₁ X₁.warmed)
  exact ⟨v, vm₁, B, X₁.warmed, X', hpost, fun target h => hstep₁ _ fun acts => by rw [doInvoke_state]; exact hsteps.trans h⟩
theorem vx_runSW {y : MethodName} {bytes cc : ByteArray} {maxL nL mc ms n index : Nat} {ret : Option FieldType} {hh : List (Nat × Nat × Nat × Nat)} {ws : List Cond} {rm : Room} {Pc : Array Value → State → Prop} {Qc : Array Value → State → Outcome → State → Prop} {free : Addr → Prop} {Ts : List Cond} {own : String} {As rest : List Value} {g : JFrame}
    (S : CallFix p m c cc nL s args Ts own) (hM : Met l y ws rm Pc Qc mc ms free) (cw : vx_CSW R s args own index y bytes maxL ret hh ws rm mc ms n) (hp : PreS s H Pc As)
    (hg : g.method = m) (hn : As.length = n) (hsize : g.locals.size = nL) (hstack : g.stack = As.reverse ++ rest) (hW : 2 * g.monitorRoom + (rest.map fun v => v.category).sum ≤ 8) (hdg : decode cc g.pc = .ok (.invokestatic index, 3)) (hf : cells + mc ≤ R.cells ∧ slots + ms ≤ R.slots) :
    va_Run p l e R s m args below meth c H locs cells slots mc ms g rest (Qc As.toArray) (free) := by
  obtain ⟨⟨hrc, hrs, hfr, hlo, hws, hcw⟩, hcode, hini, hy, hlen, hl, hstt⟩ := cw
  have hK : Back l R p e below s args y 3 8 (PreOf R mc ms Pc) (PostOf Qc mc ms free) := va_backW (hh := hh) (bytes := bytes) (maxL := maxL) (ret := ret) hM hp.1 hrc hrs hfr hlo hws hcw (fun a' U hW => word_at hW (Or.inl (by first | rfl | simp [Cond.onTables, Cond.keeps, Cond.steady])) hini)
  obtain ⟨hx, hb, hml, ho, -⟩ := S
  intro T hT X
  obtain ⟨v, vm₁, ⟨U', l2, c2, s2⟩, hW₁, X', ⟨g', mk, t, L, e1, e2, hq, h1, hL, h2, h3⟩, st⟩ := vx_callSW X hx (hh := hh) (bytes := bytes) (maxL := maxL) (ret := ret) ho hl hstt hini hcode hy hK hg (hsize.trans hml.symm) (argsL := As) (rest := rest) (fun sig h => hn.trans (hlen sig h)) hstack hW (by rw [hb]; exact hdg)
    (fun vm₁ hW₁ => ⟨hf.1, hf.2, hp.2 (T.setVm vm₁) hT hW₁⟩)
  dsimp only [Pt.U, Pt.locs, Pt.cells, Pt.slots] at X' e1 e2 h1 h2 h3 st
  subst h1; subst h2; subst h3
  exact ⟨v, (T.setVm vm₁).calling g' mk As.toArray, t, U', L, hT, X', hL, e1, e2, hq, st⟩
/-- not caught here, past rows that name other classes: it goes on to the caller -/
theorem vx_outP {p : Program} {l : Launch} {e : Env} {R : Room} {s : State} {m : MethodId} {args : Array Value} {below : List Frame} {meth : Method} {c : Code} {H : Heap} {locs : List Loc} {cells slots : Nat} {free : Addr → Prop} {ls : Array Slot} {rest : List Value} {Qc : Array Value → State → Outcome → State → Prop} {XC : String → State → State → Prop}
    {pc : Nat} {own E : String} {ce : Cell} {q : Addr} {mc ms : Nat} (hown : s.vm.findClass own = some m.cls) (hlocks : meth.locks = false)
    (hpass : ∀ z ∈ c.exceptionTable.toList, covers z pc = false ∨ (z.catchType ≠ 0 ∧ ∃ nm : String, (Cond.classLink own z.catchType nm).before args s = true ∧ va_Nc E nm s)) (hcell : H[q]? = some ce) (hv : ce.vm = .none) (hcl : s.vm.findClass E = some ce.cls)
    (hx : ∀ t : State, t.heap = H → s.vm.Alike t.vm → XC E s t) (hf : ∀ z ∈ locs, free z.base) (hc : cells ≤ mc) (hs : slots ≤ ms) :
    vx_W p l e R s m args below meth c H locs cells slots (vx_MQ below Qc XC args s mc ms free) (F0 m pc ls rest) q := by
  intro T hT X
  have hpl : e.platform.magicAccessors = ({} : Platform).magicAccessors := by rw [X.admits.platform]
  obtain ⟨vm', hW', X', st⟩ := X.outThrough hlocks q (g := F0 m pc ls rest) rfl rfl rfl (cell := ce) (by rw [hT]; exact hcell) (by rw [hv]; rfl)
    (by obtain ⟨k9, h9, -⟩ := Vm.findClass_spec hcl; exact ⟨k9, h9⟩) (fun z hz => by
      rcases hpass z hz with h | ⟨hz0, nm, hl1, hn1⟩
      · exact Or.inl h
      · obtain ⟨c6, hc6, hcl6⟩ := Cond.classLink_spec hown hl1 e.platform hpl
        obtain ⟨a8, b8, h1, h2, h3⟩ := hn1
        cases Option.some.inj (h1.symm.trans hcl)
        cases Option.some.inj (h2.symm.trans hc6)
        exact Or.inr ⟨hz0, _, hcl6, h3⟩)
  obtain ⟨g₀, hfr⟩ := X'.frames_eq
  have hcell9 : ((T.setVm vm').setFrames (.throwing q :: below)).heap[q]? = some ce := by
    show T.heap[q]? = some ce
    rw [hT]; exact hcell
  have hend : Ended ((T.setVm vm').setFrames (.throwing q :: below)) below (.threw q) := State.frames_setFrames _ (State.cur_lt_of_frames hfr)
  refine ⟨(T.setVm vm').setFrames (.throwing q :: below), ?_, .threw q, X'.here.running, hend, Or.inr ⟨q, rfl, E, ce, locs, hx _ hT (X'.ends _).1.alike, hcell9, hv, hcl, (X'.ends _).1, (X'.ends _).2.mono hc hs, hf⟩⟩
  rw [X.pushThrowing_eq]
  exact st
/-- a thing of a world lies in the heap -/
theorem vx_lt {D : va_G} {cl : List vw_C} {ws : va_W} {H1 : Heap} (h : va_P D cl ws H1) {k : Nat} {q : Nat × va_E} (hk : ws[k]? = some q) : q.1 < H1.size := (h k q hk).lt
end VXS
/-! ===== END ===== -/
/-! ===== BEGIN methods with a table of their own: called by a name, returning or throwing ===== -/
section VXH
/-! vx_backW, vx_callVX, vx_callSX, vx_callVW, vx_runVW, vx_runVX, vx_runSX, vx_ofWH follow the same proofs as their sisters above (Free/Laws.lean, Shelf42/LK1.lean); vx_outP calls Shelf42/NT130.lean (outThrough). -/
section
variable {l : Launch} {R : Room} {p : Program} {e : Env} {below : List Frame} {s : State} {sargs : Array Value} {y : MethodName} {len W9 : Nat}
theorem vx_backW {ws : List Cond} {rm : Room} {Pc : Array Value → State → Prop} {Qc : Array Value → State → Outcome → State → Prop} {XC : String → State → State → Prop} {mc ms : Nat} {free : Addr → Prop} {bytes : ByteArray} {maxL : Nat} {ret : Option FieldType} {hh : List (Nat × Nat × Nat × Nat)}
    (hM : vx_Met l y ws rm Pc Qc XC mc ms free) (hblind : FrameBlind Pc) (hrc : rm.cells = mc) (hrs : rm.slots = ms)
    (hframes : rm.frames + 1 ≤ R.frames) (hlocals : W9 + (maxL + 11) + rm.locals ≤ R.locals)
    (hws : ∀ w ∈ ws, ∀ a' U, s.WarmedH U.vm → w.before a' U = true) (hcode : Cond.codeWith y bytes maxL ret hh ∈ ws) (hinit : ∀ a' U, s.WarmedH U.vm → (Cond.initialized y.cls).before a' U = true) :
    vx_Back l R p e below s sargs y len W9 (PreOf R mc ms Pc) (PostOf Qc mc ms free) (vx_Post XC mc ms free) := by
  intro m meth c A g ig mk a X hg hsize hdg hW hn hp
  have h1 : (headSpec ws rm).pre.before a A.U = true := atoms_intro fun w hw => hws w hw _ _ X.warmed
  have h2 : (Cond.codeWith y bytes maxL ret hh).before a A.U = true := hws _ hcode _ _ X.warmed
  have h3 : (Cond.initialized y.cls).before a A.U = true := hinit _ _ X.warmed
  have h4 : A.cells + (headSpec ws rm).room.cells ≤ R.cells := by rw [show (headSpec ws rm).room.cells = mc from hrc]; exact hp.1
  have h5 : A.slots + (headSpec ws rm).room.slots ≤ R.slots := by rw [show (headSpec ws rm).room.slots = ms from hrs]; exact hp.2.1
  have hPc : Pc a (A.U.calling g mk a) := hblind _ _ _ _ hp.2.2
  obtain ⟨U, Ls, c0, s0⟩ := A
  dsimp only [Pt.U, Pt.locs, Pt.cells, Pt.slots] at h1 h2 h3 h4 h5 X hn hPc ⊢
  obtain ⟨m9, methY, cY, hn9, hmY, hcY, -, hlY, -⟩ := Cond.codeWith_spec h2
  cases Option.some.inj (hn9.symm.trans hn)
  obtain ⟨kY, hkY, -⟩ := className_of_methodNamed hn
  have hinitY : kY.init = .initialized := Cond.initialized_spec (findClass_of_methodNamed hn) hkY h3
  have h : At U g.method c below := by rw [hg]; exact X.here
  have hlocals9 : W9 + (maxL + 11) + (headSpec ws rm).room.locals ≤ R.locals := hlocals
  have happ : (headSpec ws rm).appliesLoose y e.platform (U.calling g mk a) = true :=
    Spec.appliesLoose_calling (g := g) h hdg hn hkY hinitY
      (X.room_calling (g := g) (R' := (headSpec ws rm).room) hsize hmY hcY hframes (by rw [hlY]; omega) h4 h5) h1
  obtain ⟨mid, hmid⟩ := h.above
  have hfr : (U.setTop g).frames = (.java g :: mid) ++ below := by rw [State.frames_setTop' g h.top, hmid]; rfl
  obtain ⟨o, s₂, hsteps, -, hend, hq⟩ := Steps.callFree hM p X.admits X.cas X.clock (acts := []) hfr happ hPc trivial
  have hq' : vx_Q Qc XC mc ms free a (U.calling g mk a) o s₂ := hq
  rw [State.frames_setTop' g h.top] at hend
  obtain ⟨g₀, hg0⟩ := Option.isSome_iff_exists.mp h.top
  obtain ⟨r, hr⟩ := State.topJava?_eq_some.mp hg0
  have hr' : (({ U with heap := s₂.heap, slotsUsed := s₂.slotsUsed } : State).setVm s₂.vm).frames = .java g₀ :: r := hr
  rcases hq' with ⟨hqc, L, hfe, hL⟩ | ⟨q, rfl, E, ce, L, hx, hce, hcv, hcl, hW₂, hsm, hL⟩
  · obtain ⟨⟨v, rfl⟩, hW₂, e2, q2, q3, q4, q5, q6⟩ := id hfe
    have e3 : s₂ = ({ (U.calling g mk a).setFrames s₂.frames with heap := s₂.heap, slotsUsed := s₂.slotsUsed } : State).setVm s₂.vm := by
      have : s₂ = ({ s₂ with vm := (U.calling g mk a).vm } : State).setVm s₂.vm := rfl
      rw [e2] at this
      exact this
    obtain ⟨c₂, i₂, len₂, hc₂, hd₂, hf₂⟩ := hend
    have hW' : U.WarmedH s₂.vm := hW₂
    have hcc : c₂ = c := by
      have h1 : s₂.code? g.method = U.code? g.method := by
        rw [State.code?_eq, State.code?_eq, hW'.alike.method?]
      exact Option.some.inj (hc₂.symm.trans (h1.trans h.code))
    subst hcc
    have hlen : len₂ = len := by rw [hdg] at hd₂; cases hd₂; rfl
    subst hlen
    have hs₂ : s₂ = (({ U with heap := s₂.heap, slotsUsed := s₂.slotsUsed } : State).setVm s₂.vm).setTop { g with pc := g.pc + len₂, stack := v.toList ++ g.stack } := by
      refine e3.trans ?_
      rw [hf₂, State.calling_eq h.top, State.setFrames_setFrames, State.setTop_of_frames _ hr', hr]
      rfl
    have hsame : U.sameButNew ({ U with heap := s₂.heap, slotsUsed := s₂.slotsUsed } : State) L mc ms := by
      refine ⟨?_, q2, q3, q4, q5, q6⟩
      obtain ⟨t, ht, -⟩ := State.frames_cons hr
      show ({ U with heap := s₂.heap, slotsUsed := s₂.slotsUsed } : State) = { U.setFrames U.frames with heap := s₂.heap, slotsUsed := s₂.slotsUsed }
      rw [State.setFrames_self ht]
    subst hg
    refine Or.inl ⟨v, ⟨(({ U with heap := s₂.heap, slotsUsed := s₂.slotsUsed } : State).setVm s₂.vm), Ls ++ L, c0 + mc, s0 + ms⟩,
      ⟨X.admits, X.cas, X.clock, X.frames, X.room, X.hears, X.method, X.code, (X.here.setHeapUsed s₂.heap s₂.slotsUsed).setVm hW'.alike, X.tail, State.WarmedH.trans X.warmed hW', X.limits, X.bytes, X.same.trans (hsame.setVm s.vm)⟩,
      ⟨g, mk, s₂, L, rfl, rfl, hqc, rfl, hL, rfl, rfl⟩, ?_⟩
    show Steps p.tables e below _ ((({ U with heap := s₂.heap, slotsUsed := s₂.slotsUsed } : State).setVm s₂.vm).setTop { g with pc := g.pc + len₂, stack := v.toList ++ g.stack })
    rw [← hs₂]
    exact hsteps
  · obtain ⟨e2, q2, q3, q4, q5, q6⟩ := id hsm
    have e3 : s₂ = ({ (U.calling g mk a).setFrames s₂.frames with heap := s₂.heap, slotsUsed := s₂.slotsUsed } : State).setVm s₂.vm := by
      have : s₂ = ({ s₂ with vm := (U.calling g mk a).vm } : State).setVm s₂.vm := rfl
      rw [e2] at this
      exact this
    have hf₂ : s₂.frames = .throwing q :: .java g :: U.frames.tail := hend
    have hW' : U.WarmedH s₂.vm := hW₂
    have hs₂ : s₂ = ((({ U with heap := s₂.heap, slotsUsed := s₂.slotsUsed } : State).setVm s₂.vm).setTop g).pushFrame (.throwing q) := by
      refine e3.trans ?_
      rw [hf₂, State.calling_eq h.top, State.setFrames_setFrames, State.pushFrame, State.frames_setTop _ hr', State.setTop_of_frames _ hr', State.setFrames_setFrames, hr]
      rfl
    have hsame : U.sameButNew ({ U with heap := s₂.heap, slotsUsed := s₂.slotsUsed } : State) L mc ms := by
      refine ⟨?_, q2, q3, q4, q5, q6⟩
      obtain ⟨t, ht, -⟩ := State.frames_cons hr
      show ({ U with heap := s₂.heap, slotsUsed := s₂.slotsUsed } : State) = { U.setFrames U.frames with heap := s₂.heap, slotsUsed := s₂.slotsUsed }
      rw [State.setFrames_self ht]
    subst hg
    refine Or.inr ⟨q, ⟨(({ U with heap := s₂.heap, slotsUsed := s₂.slotsUsed } : State).setVm s₂.vm), Ls ++ L, c0 + mc, s0 + ms⟩,
      ⟨X.admits, X.cas, X.clock, X.frames, X.room, X.hears, X.method, X.code, (X.here.setHeapUsed s₂.heap s₂.slotsUsed).setVm hW'.alike, X.tail, State.WarmedH.trans X.warmed hW', X.limits, X.bytes, X.same.trans (hsame.setVm s.vm)⟩,
      ⟨g, mk, s₂, L, E, ce, rfl, rfl, hx, hce, hcv, hcl, rfl, hL, rfl, rfl⟩, ?_⟩
    show Steps p.tables e below _ (((({ U with heap := s₂.heap, slotsUsed := s₂.slotsUsed } : State).setVm s₂.vm).setTop g).pushFrame (.throwing q))
    rw [← hs₂]
    exact hsteps
end
variable {p : Program} {l : Launch} {e : Env} {R : Room} {s : State} {m : MethodId} {args : Array Value} {below : List Frame} {meth : Method} {c : Code} {T : State} {H : Heap} {locs : List Loc} {cells slots : Nat}
theorem vx_callVX (X : Stand p l e R s m args below meth c T locs cells slots) (hexec : p.tables.exec = Jvm.exec) {own C : String} {index : Nat} {y : MethodName} {bytes : ByteArray} {maxL : Nat} {ret : Option FieldType} {hh : List (Nat × Nat × Nat × Nat)}
    (hown : s.vm.findClass own = some m.cls) (hlink : (Cond.methodLink own index y).before args s = true) (hinst : (Cond.instanceMethod y).before args s = true) (hsel : (Cond.selects C y y).before args s = true)
    (hcode : (Cond.codeWith y bytes maxL ret hh).before args s = true) (hy : y.cls ≠ "java/lang/invoke/MethodHandle" ∧ y.cls ≠ "java/lang/invoke/VarHandle")
    {W9 : Nat} {Pre : Pt → Array Value → Prop} {Post : Pt → Array Value → Option Value → Pt → Prop} {PostX : Pt → Array Value → Addr → Pt → Prop} (hK : vx_Back l R p e below s args y 3 W9 Pre Post PostX)
    {b : Addr} {cellB : Cell} (hcell : T.heap[b]? = some cellB) (hobj : cellB.vm.isStatics = false) (hcls : s.vm.findClass C = some cellB.cls)
    {g : JFrame} (hg : g.method = m) (hsize : g.locals.size = c.maxLocals) {argsL rest : List Value} (hlen : ∀ sig, parseMethodDescriptor y.desc = some sig → argsL.length = sig.parameters.length)
    (hstack : g.stack = argsL.reverse ++ .ref b :: rest) (hW : 2 * g.monitorRoom + (rest.map fun v => v.category).sum ≤ W9) (hdg : decode c.code g.pc = .ok (.invokevirtual index, 3))
    (hpre : ∀ vm₁, s.WarmedH vm₁ → Pre ⟨T.setVm vm₁, locs, cells, slots⟩ (Value.ref b :: argsL).toArray) :
    (∃ (v : Option Value) (vm₁ : Vm) (B : Pt), s.WarmedH vm₁ ∧ Stand p l e R s m args below meth c B.U B.locs B.cells B.slots ∧ Post ⟨T.setVm vm₁, locs, cells, slots⟩ (Value.ref b :: argsL).toArray v B ∧
      ∀ target, Steps p.tables e below (B.U.setTop { g with pc := g.pc + 3, stack := v.toList ++ rest }) target → Steps p.tables e below (T.setTop g) target) ∨
    (∃ (q : Addr) (vm₁ : Vm) (B : Pt), s.WarmedH vm₁ ∧ Stand p l e R s m args below meth c B.U B.locs B.cells B.slots ∧ PostX ⟨T.setVm vm₁, locs, cells, slots⟩ (Value.ref b :: argsL).toArray q B ∧
      Steps p.tables e below (T.setTop g) ((B.U.setTop { g with stack := rest }).pushFrame (.throwing q))) := by
  obtain ⟨mk, methM, hnamed, hmethM, hstM, habM⟩ := Cond.instanceMethod_spec hinst
  obtain ⟨m8, methM', cM, hn8, hmethM', -, -, -, -, -, -, hsigM⟩ := Cond.codeWith_spec hcode
  cases Option.some.inj (hn8.symm.trans hnamed)
  cases hmethM.symm.trans hmethM'
  obtain ⟨c2, r2, m2, q1, q2, q3, q4, kP, hkP, hkPi⟩ := Cond.selects_spec hsel
  cases hcls.symm.trans q1
  cases (State.methodFound?_of_named hnamed hy).symm.trans q2
  cases hnamed.symm.trans q3
  have hselP : selectMethod e.platform s.vm cellB.cls mk = .method mk := by rw [Launch.admits_selectMethod X.admits]; exact q4
  obtain ⟨vm₁, X₁, hstep₁⟩ := X.invokevirtual hexec hown hlink hnamed hmethM hstM hkP hkPi hy (a := b) (cell := cellB) hcell
    (fun z h => by rw [h] at hobj; cases hobj) hselP hmethM habM hkP hkPi (g := g) hg (argsL := argsL) (rest := rest) (hlen _ hsigM) hstack hdg
  rcases hK m meth c ⟨T.setVm vm₁, locs, cells, slots⟩ { g with stack := rest } (.invokevirtual index) mk (Value.ref b :: argsL).toArray X₁ hg hsize hdg hW (X₁.named hnamed) (hpre vm₁ X₁.warmed) with ⟨v, B, X', hpost, hsteps⟩ | ⟨q, B, X', hpost, hsteps⟩
  · exact Or.inl ⟨v, vm₁, B, X₁.warmed, X', hpost, fun target h => hstep₁ _ fun acts => by rw [doInvoke_state]; exact hsteps.trans h⟩
  · exact Or.inr ⟨q, vm₁, B, X₁.warmed, X', hpost, hstep₁ _ fun acts => by rw [doInvoke_state]; exact hsteps⟩
theorem vx_callSX (X : Stand p l e R s m args below meth c T locs cells slots) (hexec : p.tables.exec = Jvm.exec) {own : String} {index : Nat} {y : MethodName} {bytes : ByteArray} {maxL : Nat} {ret : Option FieldType} {hh : List (Nat × Nat × Nat × Nat)}
    (hown : s.vm.findClass own = some m.cls) (hlink : (Cond.methodLink own index y).before args s = true) (hstat : (Cond.static y).before args s = true) (hinit : (Cond.initialized y.cls).before args s = true)
    (hcode : (Cond.codeWith y bytes maxL ret hh).before args s = true) (hy : y.cls ≠ "java/lang/invoke/MethodHandle" ∧ y.cls ≠ "java/lang/invoke/VarHandle")
    {W9 : Nat} {Pre : Pt → Array Value → Prop} {Post : Pt → Array Value → Option Value → Pt → Prop} {PostX : Pt → Array Value → Addr → Pt → Prop} (hK : vx_Back l R p e below s args y 3 W9 Pre Post PostX)
    {g : JFrame} (hg : g.method = m) (hsize : g.locals.size = c.maxLocals) {argsL rest : List Value} (hlen : ∀ sig, parseMethodDescriptor y.desc = some sig → argsL.length = sig.parameters.length)
    (hstack : g.stack = argsL.reverse ++ rest) (hW : 2 * g.monitorRoom + (rest.map fun v => v.category).sum ≤ W9) (hdg : decode c.code g.pc = .ok (.invokestatic index, 3))
    (hpre : ∀ vm₁, s.WarmedH vm₁ → Pre ⟨T.setVm vm₁, locs, cells, slots⟩ argsL.toArray) :
    (∃ (v : Option Value) (vm₁ : Vm) (B : Pt), s.WarmedH vm₁ ∧ Stand p l e R s m args below meth c B.U B.locs B.cells B.slots ∧ Post ⟨T.setVm vm₁, locs, cells, slots⟩ argsL.toArray v B ∧
      ∀ target, Steps p.tables e below (B.U.setTop { g with pc := g.pc + 3, stack := v.toList ++ rest }) target → Steps p.tables e below (T.setTop g) target) ∨
    (∃ (q : Addr) (vm₁ : Vm) (B : Pt), s.WarmedH vm₁ ∧ Stand p l e R s m args below meth c B.U B.locs B.cells B.slots ∧ PostX ⟨T.setVm vm₁, locs, cells, slots⟩ argsL.toArray q B ∧
      Steps p.tables e below (T.setTop g) ((B.U.setTop { g with stack := rest }).pushFrame (.throwing q))) := by
  obtain ⟨mk, methM, cM, hnamed, hmethM, -, -, -, -, -, -, hsigM⟩ := Cond.codeWith_spec hcode
  have hstatic : methM.isStatic = true := Cond.static_spec hnamed hmethM hstat
  obtain ⟨kP, hkP, -⟩ := className_of_methodNamed hnamed
  have hinitP : kP.init = .initialized := Cond.initialized_spec (findClass_of_methodNamed hnamed) hkP hinit
  obtain ⟨vm₁, X₁, hstep₁⟩ := X.invokestatic hexec hown hlink hnamed hmethM hstatic hkP hinitP hy (g := g) hg (argsL := argsL) (rest := rest) (hlen _ hsigM) hstack hdg
  rcases hK m meth c ⟨T.setVm vm₁, locs, cells, slots⟩ { g with stack := rest } (.invokestatic index) mk argsL.toArray X₁ hg hsize hdg hW (X₁.named hnamed) (hpre vm₁ X₁.warmed) with ⟨v, B, X', hpost, hsteps⟩ | ⟨q, B, X', hpost, hsteps⟩
  · exact Or.inl ⟨v, vm₁, B, X₁.warmed, X', hpost, fun target h => hstep₁ _ fun acts => by rw [doInvoke_state]; exact hsteps.trans h⟩
  · exact Or.inr ⟨q, vm₁, B, X₁.warmed, X', hpost, hstep₁ _ fun acts => by rw [doInvoke_state]; exact hsteps⟩
theorem vx_callVW (X : Stand p l e R s m args below meth c T locs cells slots) (hexec : p.tables.exec = Jvm.exec) {own C : String} {index : Nat} {y : MethodName} {bytes : ByteArray} {maxL : Nat} {ret : Option FieldType} {hh : List (Nat × Nat × Nat × Nat)}
    (hown : s.vm.findClass own = some m.cls) (hlink : (Cond.methodLink own index y).before args s = true) (hinst : (Cond.instanceMethod y).before args s = true) (hsel : (Cond.selects C y y).before args s = true)
    (hcode : (Cond.codeWith y bytes maxL ret hh).before args s = true) (hy : y.cls ≠ "java/lang/invoke/MethodHandle" ∧ y.cls ≠ "java/lang/invoke/VarHandle")
    {W9 : Nat} {Pre : Pt → Array Value → Prop} {Post : Pt → Array Value → Option Value → Pt → Prop} (hK : Back l R p e below s args y 3 W9 Pre Post)
    {b : Addr} {cellB : Cell} (hcell : T.heap[b]? = some cellB) (hobj : cellB.vm.isStatics = false) (hcls : s.vm.findClass C = some cellB.cls)
    {g : JFrame} (hg : g.method = m) (hsize : g.locals.size = c.maxLocals) {argsL rest : List Value} (hlen : ∀ sig, parseMethodDescriptor y.desc = some sig → argsL.length = sig.parameters.length)
    (hstack : g.stack = argsL.reverse ++ .ref b :: rest) (hW : 2 * g.monitorRoom + (rest.map fun v => v.category).sum ≤ W9) (hdg : decode c.code g.pc = .ok (.invokevirtual index, 3))
    (hpre : ∀ vm₁, s.WarmedH vm₁ → Pre ⟨T.setVm vm₁, locs, cells, slots⟩ (Value.ref b :: argsL).toArray) :
    ∃ (v : Option Value) (vm₁ : Vm) (B : Pt), s.WarmedH vm₁ ∧ Stand p l e R s m args below meth c B.U B.locs B.cells B.slots ∧ Post ⟨T.setVm vm₁, locs, cells, slots⟩ (Value.ref b :: argsL).toArray v B ∧
      ∀ target, Steps p.tables e below (B.U.setTop { g with pc := g.pc + 3, stack := v.toList ++ rest }) target → Steps p.tables e below (T.setTop g) target := by
  obtain ⟨mk, methM, hnamed, hmethM, hstM, habM⟩ := Cond.instanceMethod_spec hinst
  obtain ⟨m8, methM', cM, hn8, hmethM', -, -, -, -, -, -, hsigM⟩ := Cond.codeWith_spec hcode
  cases Option.some.inj (hn8.symm.trans hnamed)
  cases hmethM.symm.trans hmethM'
  obtain ⟨c2, r2, m2, q1, q2, q3, q4, kP, hkP, hkPi⟩ := Cond.selects_spec hsel
  cases hcls.symm.trans q1
  cases (State.methodFound?_of_named hnamed hy).symm.trans q2
  cases hnamed.symm.trans q3
  have hselP : selectMethod e.platform s.vm cellB.cls mk = .method mk := by rw [Launch.admits_selectMethod X.admits]; exact q4
  obtain ⟨vm₁, X₁, hstep₁⟩ := X.invokevirtual hexec hown hlink hnamed hmethM hstM hkP hkPi hy (a := b) (cell := cellB) hcell
    (fun z h => by rw [h] at hobj; cases hobj) hselP hmethM habM hkP hkPi (g := g) hg (argsL := argsL) (rest := rest) (hlen _ hsigM) hstack hdg
  obtain ⟨v, B, X', hpost, hsteps⟩ := hK m meth c ⟨T.setVm vm₁, locs, cells, slots⟩ { g with stack := rest } (.invokevirtual index) mk (Value.ref b :: argsL).toArray X₁ hg hsize hdg hW (X₁.named hnamed) (hpre vm₁ X₁.warmed)
  exact ⟨v, vm₁, B, X₁.warmed, X', hpost, fun target h => hstep₁ _ fun acts => by rw [doInvoke_state]; exact hsteps.trans h⟩
abbrev vx_CVW (R : Room) (s : State) (args : Array Value) (own C : String) (index : Nat) (y : MethodName) (bytes : ByteArray) (maxL : Nat) (ret : Option FieldType) (hh : List (Nat × Nat × Nat × Nat)) (ws : List Cond) (rm : Room) (mc ms n : Nat) : Prop :=
  (rm.cells = mc ∧ rm.slots = ms ∧ rm.frames + 1 ≤ R.frames ∧ 8 + (maxL + 11) + rm.locals ≤ R.locals ∧ (∀ w ∈ ws, ∀ (a' : Array Value) (U : State), s.WarmedH U.vm → w.before a' U = true) ∧ Cond.codeWith y bytes maxL ret hh ∈ ws) ∧
  (Cond.codeWith y bytes maxL ret hh).before args s = true ∧ (Cond.initialized y.cls).before args s = true ∧ (y.cls ≠ "java/lang/invoke/MethodHandle" ∧ y.cls ≠ "java/lang/invoke/VarHandle") ∧
  (∀ sig, parseMethodDescriptor y.desc = some sig → n = sig.parameters.length) ∧ (Cond.methodLink own index y).before args s = true ∧ (Cond.instanceMethod y).before args s = true ∧ (Cond.selects C y y).before args s = true
theorem vx_cwVW {own C : String} {index maxL mc ms : Nat} {y : MethodName} {bytes : ByteArray} {ret : Option FieldType} {hh : List (Nat × Nat × Nat × Nat)} {Ts ws ws' : List Cond} {rm : Room} (n : Nat) (ht : ∀ w ∈ Ts, w.before args s = true) (hT : GoodIn Ts (wsV own index C y ws)) (hw : ws = Cond.codeWith y bytes maxL ret hh :: ws') (hrc : rm.cells = mc) (hrs : rm.slots = ms)
    (hd : y.cls = C ∧ y.cls ≠ "java/lang/invoke/MethodHandle" ∧ y.cls ≠ "java/lang/invoke/VarHandle" ∧ (parseMethodDescriptor y.desc).map (fun d => d.parameters.length) = some n) (hR : rm.frames + 1 ≤ R.frames ∧ 8 + (maxL + 11) + rm.locals ≤ R.locals) :
    vx_CVW R s args own C index y bytes maxL ret hh ws rm mc ms n := by
  obtain ⟨hC, hd⟩ := hd
  subst hC
  have ok : ∀ w ∈ wsV own index y.cls y ws, w.before args s = true := fun w h => ht w (hT w h).1
  have hG : GoodIn Ts ws := fun w h => hT w (by unfold wsV; exact List.mem_append_right _ h)
  have hc : Cond.codeWith y bytes maxL ret hh ∈ ws := by rw [hw]; exact List.mem_cons_self
  refine ⟨⟨hrc, hrs, hR.1, hR.2, pay_in ht hG, hc⟩, ht _ (hG _ hc).1, ok _ (by simp [wsV]), ⟨hd.1, hd.2.1⟩, fun sig h => ?_, ok _ (by simp [wsV]), ok _ (by simp [wsV]), ok _ (by simp [wsV])⟩
  have h2 := hd.2.2
  rw [h] at h2
  exact (Option.some.inj h2).symm
theorem vx_runVW {y : MethodName} {bytes cc : ByteArray} {maxL nL mc ms n index : Nat} {ret : Option FieldType} {hh : List (Nat × Nat × Nat × Nat)} {ws : List Cond} {rm : Room} {Pc : Array Value → State → Prop} {Qc : Array Value → State → Outcome → State → Prop} {free : Addr → Prop} {Ts : List Cond} {own C : String} {b : Addr} {As rest : List Value} {g : JFrame}
    (S : CallFix p m c cc nL s args Ts own) (hM : Met l y ws rm Pc Qc mc ms free) (cw : vx_CVW R s args own C index y bytes maxL ret hh ws rm mc ms n) (hp : PreV s H C b Pc As)
    (hg : g.method = m) (hn : As.length = n) (hsize : g.locals.size = nL) (hstack : g.stack = As.reverse ++ .ref b :: rest) (hW : 2 * g.monitorRoom + (rest.map fun v => v.category).sum ≤ 8) (hdg : decode cc g.pc = .ok (.invokevirtual index, 3)) (hf : cells + mc ≤ R.cells ∧ slots + ms ≤ R.slots) :
    va_Run p l e R s m args below meth c H locs cells slots mc ms g rest (Qc (Value.ref b :: As).toArray) free := by
  obtain ⟨⟨hrc, hrs, hfr, hlo, hws, hcw⟩, hcode, hini, hy, hlen, hl, hin, hse⟩ := cw
  have hK : Back l R p e below s args y 3 8 (PreOf R mc ms Pc) (PostOf Qc mc ms free) := va_backW (hh := hh) (bytes := bytes) (maxL := maxL) (ret := ret) hM hp.1 hrc hrs hfr hlo hws hcw (fun a' U hW => word_at hW (Or.inl (by first | rfl | simp [Cond.onTables, Cond.keeps, Cond.steady])) hini)
  obtain ⟨hx, hb, hml, ho, -⟩ := S
  obtain ⟨-, ⟨cellB, hcB, hoB, hclB⟩, hPc⟩ := hp
  intro T hT X
  obtain ⟨v, vm₁, ⟨U', l2, c2, s2⟩, hW₁, X', ⟨g', mk, t, L, e1, e2, hq, h1, hL, h2, h3⟩, st⟩ := vx_callVW X hx (C := C) (hh := hh) (bytes := bytes) (maxL := maxL) (ret := ret) ho hl hin hse hcode hy hK (by rw [hT]; exact hcB) hoB hclB hg (hsize.trans hml.symm) (argsL := As) (rest := rest) (fun sig h => hn.trans (hlen sig h)) hstack hW (by rw [hb]; exact hdg)
    (fun vm₁ hW₁ => ⟨hf.1, hf.2, hPc (T.setVm vm₁) hT hW₁⟩)
  dsimp only [Pt.U, Pt.locs, Pt.cells, Pt.slots] at X' e1 e2 h1 h2 h3 st
  subst h1; subst h2; subst h3
  exact ⟨v, (T.setVm vm₁).calling g' mk (Value.ref b :: As).toArray, t, U', L, hT, X', hL, e1, e2, hq, st⟩
section
variable {y : MethodName} {bytes cc : ByteArray} {maxL nL mc ms n index : Nat} {ret : Option FieldType} {ws : List Cond} {rm : Room} {Pc : Array Value → State → Prop} {Qc : Array Value → State → Outcome → State → Prop} {XC : String → State → State → Prop} {free : Addr → Prop} {Ts : List Cond} {own C : String} {b : Addr} {As rest : List Value} {g : JFrame}
theorem vx_runVX {hh : List (Nat × Nat × Nat × Nat)} (S : CallFix p m c cc nL s args Ts own) (hM : vx_Met l y ws rm Pc Qc XC mc ms free) (cw : vx_CVW R s args own C index y bytes maxL ret hh ws rm mc ms n) (hp : PreV s H C b Pc As)
    (hg : g.method = m) (hn : As.length = n) (hsize : g.locals.size = nL) (hstack : g.stack = As.reverse ++ .ref b :: rest) (hW : 2 * g.monitorRoom + (rest.map fun v => v.category).sum ≤ 8) (hdg : decode cc g.pc = .ok (.invokevirtual index, 3)) (hf : cells + mc ≤ R.cells ∧ slots + ms ≤ R.slots) :
    vx_Run p l e R s m args below meth c H locs cells slots mc ms g rest (Qc (Value.ref b :: As).toArray) XC free := by
  obtain ⟨⟨hrc, hrs, hfr, hlo, hws, hcw⟩, hcode, hini, hy, hlen, hl, hin, hse⟩ := cw
  have hK : vx_Back l R p e below s args y 3 8 (PreOf R mc ms Pc) (PostOf Qc mc ms free) (vx_Post XC mc ms free) := vx_backW (hh := hh) (bytes := bytes) (maxL := maxL) (ret := ret) hM hp.1 hrc hrs hfr hlo hws hcw (fun a' U hW => word_at hW (Or.inl (by first | rfl | simp [Cond.onTables, Cond.keeps, Cond.steady])) hini)
  obtain ⟨hx, hb, hml, ho, -⟩ := S
  obtain ⟨-, ⟨cellB, hcB, hoB, hclB⟩, hPc⟩ := hp
  intro T hT X
  rcases vx_callVX X hx (C := C) (hh := hh) (bytes := bytes) (maxL := maxL) (ret := ret) ho hl hin hse hcode hy hK (by rw [hT]; exact hcB) hoB hclB hg (hsize.trans hml.symm) (argsL := As) (rest := rest) (fun sig h => hn.trans (hlen sig h)) hstack hW (by rw [hb]; exact hdg)
    (fun vm₁ hW₁ => ⟨hf.1, hf.2, hPc (T.setVm vm₁) hT hW₁⟩) with ⟨v, vm₁, ⟨U', l2, c2, s2⟩, hW₁, X', ⟨g', mk, t, L, e1, e2, hq, h1, hL, h2, h3⟩, st⟩ | ⟨q, vm₁, ⟨U', l2, c2, s2⟩, hW₁, X', ⟨g', mk, t, L, E, ce, e1, e2, hq, hce, hcv, hcl, h1, hL, h2, h3⟩, st⟩
  · dsimp only [Pt.U, Pt.locs, Pt.cells, Pt.slots] at X' e1 e2 h1 h2 h3 st
    subst h1; subst h2; subst h3
    exact Or.inl ⟨v, (T.setVm vm₁).calling g' mk (Value.ref b :: As).toArray, t, U', L, hT, X', hL, e1, e2, hq, st⟩
  · dsimp only [Pt.U, Pt.locs, Pt.cells, Pt.slots] at X' e1 e2 h1 h2 h3 st hcl
    subst h1; subst h2; subst h3
    exact Or.inr ⟨q, (T.setVm vm₁).calling g' mk (Value.ref b :: As).toArray, t, U', L, E, ce, hT, X', hL, e1, e2, hq, hce, hcv, vx_cls hW₁ hcl, st⟩
theorem vx_runSX {hh : List (Nat × Nat × Nat × Nat)} (S : CallFix p m c cc nL s args Ts own) (hM : vx_Met l y ws rm Pc Qc XC mc ms free) (cw : vx_CSW R s args own index y bytes maxL ret hh ws rm mc ms n) (hp : PreS s H Pc As)
    (hg : g.method = m) (hn : As.length = n) (hsize : g.locals.size = nL) (hstack : g.stack = As.reverse ++ rest) (hW : 2 * g.monitorRoom + (rest.map fun v => v.category).sum ≤ 8) (hdg : decode cc g.pc = .ok (.invokestatic index, 3)) (hf : cells + mc ≤ R.cells ∧ slots + ms ≤ R.slots) :
    vx_Run p l e R s m args below meth c H locs cells slots mc ms g rest (Qc As.toArray) XC free := by
  obtain ⟨⟨hrc, hrs, hfr, hlo, hws, hcw⟩, hcode, hini, hy, hlen, hl, hstt⟩ := cw
  have hK : vx_Back l R p e below s args y 3 8 (PreOf R mc ms Pc) (PostOf Qc mc ms free) (vx_Post XC mc ms free) := vx_backW (hh := hh) (bytes := bytes) (maxL := maxL) (ret := ret) hM hp.1 hrc hrs hfr hlo hws hcw (fun a' U hW => word_at hW (Or.inl (by first | rfl | simp [Cond.onTables, Cond.keeps, Cond.steady])) hini)
  obtain ⟨hx, hb, hml, ho, -⟩ := S
  intro T hT X
  rcases vx_callSX X hx (hh := hh) (bytes := bytes) (maxL := maxL) (ret := ret) ho hl hstt hini hcode hy hK hg (hsize.trans hml.symm) (argsL := As) (rest := rest) (fun sig h => hn.trans (hlen sig h)) hstack hW (by rw [hb]; exact hdg)
    (fun vm₁ hW₁ => ⟨hf.1, hf.2, hp.2 (T.setVm vm₁) hT hW₁⟩) with ⟨v, vm₁, ⟨U', l2, c2, s2⟩, hW₁, X', ⟨g', mk, t, L, e1, e2, hq, h1, hL, h2, h3⟩, st⟩ | ⟨q, vm₁, ⟨U', l2, c2, s2⟩, hW₁, X', ⟨g', mk, t, L, E, ce, e1, e2, hq, hce, hcv, hcl, h1, hL, h2, h3⟩, st⟩
  · dsimp only [Pt.U, Pt.locs, Pt.cells, Pt.slots] at X' e1 e2 h1 h2 h3 st
    subst h1; subst h2; subst h3
    exact Or.inl ⟨v, (T.setVm vm₁).calling g' mk As.toArray, t, U', L, hT, X', hL, e1, e2, hq, st⟩
  · dsimp only [Pt.U, Pt.locs, Pt.cells, Pt.slots] at X' e1 e2 h1 h2 h3 st hcl
    subst h1; subst h2; subst h3
    exact Or.inr ⟨q, (T.setVm vm₁).calling g' mk As.toArray, t, U', L, E, ce, hT, X', hL, e1, e2, hq, hce, hcv, vx_cls hW₁ hcl, st⟩
end
end VXH
theorem vx_ofWH {l : Launch} {y : MethodName} {ws ws' : List Cond} {rm : Room} {Pc : Array Value → State → Prop} {Qc : Array Value → State → Outcome → State → Prop} {XC : String → State → State → Prop} {mc ms : Nat} {free : Addr → Prop} {cc : ByteArray} {maxL : Nat} {ret : Option FieldType} {hh : List (Nat × Nat × Nat × Nat)}
    (hy : plainName y.cls = true) (hw : ws = Cond.codeWith y cc maxL ret hh :: ws')
    (body : ∀ p e s m args below meth c s₁, BodyLoose p l y (headSpec ws rm) cc maxL ret e s m args below meth c s₁ → c.maxLocals = maxL → Pc args s →
      W p l e (headSpec ws rm).room s m args below meth c s.heap [] 0 0 (vx_MQ below Qc XC args s mc ms free) (entryFrame m args maxL)) : vx_Met l y ws rm Pc Qc XC mc ms free := by
  refine MetFree.of_bodyS (code := cc) (maxLocals := maxL) (ret := ret) hy ?_ ?_
  · intro args s m h hn
    obtain ⟨m9, meth, c, hn9, h1, h2, h3, h4, -, h5, h6, -⟩ := Cond.codeWith_spec (atoms_spec (ws := ws) h _ (by rw [hw]; exact List.mem_cons_self))
    cases hn.symm.trans hn9
    exact ⟨meth, c, h1, h2, h3, h4, h5, h6⟩
  · intro p e s m args below meth c s₁ B hml hP _
    have hh0 : s₁.heap = s.heap := by rw [B.state]; rfl
    obtain ⟨t, a1, o, b1, b2, b3⟩ := body p e s m args below meth c s₁ B hml hP s₁ hh0 (Stand.of_body B)
    exact ⟨t, o, a1, b1, b2, b3⟩
/-! ===== END ===== -/

/-! ===== BEGIN printed: names, fields, word lists, decode rows ===== -/
def RX0 : String := "ComplaintDesk$Cause"
def TX0 : u_T := fun k => match k with
  | 0 => ("ComplaintDesk$Cause", "number", "I", true)
  | 1 => ("ComplaintDesk$Cause", "above", "LComplaintDesk$Cause;", true)
  | 2 => ("ComplaintDesk$Cause", "desk", "I", true)
  | 3 => ("ComplaintDesk$Cause", "dueDays", "I", true)
  | 4 => ("ComplaintDesk$Cause", "threat", "Z", true)
  | _ => ("ComplaintDesk$Cause", "pattern", "LComplaintDesk$Pattern;", false)
def tyX0 : Nat → FieldType := fun k => match k with
  | 0 => .int
  | 1 => .object "ComplaintDesk$Cause"
  | 2 => .int
  | 3 => .int
  | 4 => .boolean
  | _ => .object "ComplaintDesk$Pattern"
abbrev wsX00 : List Cond := u_ws RX0 TX0 6
theorem nmX0 : ∀ a, a < 6 → ∀ b, b < 6 → a ≠ b → (TX0 a).2.1 ≠ (TX0 b).2.1 := by decide +kernel
theorem tyX0_ok : ∀ k, k < 6 → parseFieldDescriptor (TX0 k).2.2.1 = some (tyX0 k) := by decide +kernel
abbrev cX0_init : ByteArray := prog_2_method_1_code
def yX0_init : MethodName := ⟨RX0, "<init>", "(ILComplaintDesk$Cause;IIZLComplaintDesk$Pattern;)V"⟩
abbrev cX0_isUnder : ByteArray := prog_2_method_2_code
def yX0_isUnder : MethodName := ⟨RX0, "isUnder", "(LComplaintDesk$Cause;)Z"⟩
def RX1 : String := "ComplaintDesk$Letter"
def TX1 : u_T := fun k => match k with
  | 0 => ("ComplaintDesk$Letter", "writer", "I", true)
  | 1 => ("ComplaintDesk$Letter", "coming", "I", true)
  | _ => ("ComplaintDesk$Letter", "points", "Ljava/util/ArrayList;", true)
def tyX1 : Nat → FieldType := fun k => match k with
  | 0 => .int
  | 1 => .int
  | _ => .object "java/util/ArrayList"
abbrev wsX10 : List Cond := u_ws RX1 TX1 3
theorem nmX1 : ∀ a, a < 3 → ∀ b, b < 3 → a ≠ b → (TX1 a).2.1 ≠ (TX1 b).2.1 := by decide +kernel
theorem tyX1_ok : ∀ k, k < 3 → parseFieldDescriptor (TX1 k).2.2.1 = some (tyX1 k) := by decide +kernel
abbrev cX1_init : ByteArray := prog_3_method_1_code
def yX1_init : MethodName := ⟨RX1, "<init>", "(II)V"⟩
abbrev cX1_firstWrong : ByteArray := prog_3_method_2_code
def yX1_firstWrong : MethodName := ⟨RX1, "firstWrong", "(LComplaintDesk$Tape;LComplaintDesk$Words;)I"⟩
abbrev cX1_pointAt : ByteArray := prog_3_method_3_code
def yX1_pointAt : MethodName := ⟨RX1, "pointAt", "(I)LComplaintDesk$Point;"⟩
abbrev cX1_isClosed : ByteArray := prog_3_method_4_code
def yX1_isClosed : MethodName := ⟨RX1, "isClosed", "()Z"⟩
abbrev cX1_causeBits : ByteArray := prog_3_method_5_code
def yX1_causeBits : MethodName := ⟨RX1, "causeBits", "()I"⟩
abbrev cX1_pointsUnder : ByteArray := prog_3_method_6_code
def yX1_pointsUnder : MethodName := ⟨RX1, "pointsUnder", "(LComplaintDesk$Cause;)I"⟩
def RX2 : String := "ComplaintDesk$Pattern"
def TX2 : u_T := fun k => match k with
  | 0 => ("ComplaintDesk$Pattern", "codes", "[J", true)
  | 1 => ("ComplaintDesk$Pattern", "allOf", "[I", true)
  | _ => ("ComplaintDesk$Pattern", "nots", "I", true)
def tyX2 : Nat → FieldType := fun k => match k with
  | 0 => .array .long
  | 1 => .array .int
  | _ => .int
abbrev wsX20 : List Cond := u_ws RX2 TX2 3
theorem nmX2 : ∀ a, a < 3 → ∀ b, b < 3 → a ≠ b → (TX2 a).2.1 ≠ (TX2 b).2.1 := by decide +kernel
theorem tyX2_ok : ∀ k, k < 3 → parseFieldDescriptor (TX2 k).2.2.1 = some (tyX2 k) := by decide +kernel
abbrev cX2_init : ByteArray := prog_4_method_1_code
def yX2_init : MethodName := ⟨RX2, "<init>", "(LComplaintDesk$Words;)V"⟩
abbrev cX2_firstWrong : ByteArray := prog_4_method_2_code
def yX2_firstWrong : MethodName := ⟨RX2, "firstWrong", "(LComplaintDesk$Tape;LComplaintDesk$Words;)I"⟩
abbrev cX2_isPlainWord : ByteArray := prog_4_method_3_code
def yX2_isPlainWord : MethodName := ⟨RX2, "isPlainWord", "(J)Z"⟩
abbrev cX2_fits : ByteArray := prog_4_method_4_code
def yX2_fits : MethodName := ⟨RX2, "fits", "(LComplaintDesk$Point;)Z"⟩
def RX3 : String := "ComplaintDesk$Point"
def TX3 : u_T := fun k => match k with
  | 0 => ("ComplaintDesk$Point", "codes", "[J", true)
  | 1 => ("ComplaintDesk$Point", "cause", "LComplaintDesk$Cause;", false)
  | 2 => ("ComplaintDesk$Point", "due", "I", false)
  | _ => ("ComplaintDesk$Point", "answered", "I", false)
def tyX3 : Nat → FieldType := fun k => match k with
  | 0 => .array .long
  | 1 => .object "ComplaintDesk$Cause"
  | 2 => .int
  | _ => .int
abbrev wsX30 : List Cond := u_ws RX3 TX3 4
theorem nmX3 : ∀ a, a < 4 → ∀ b, b < 4 → a ≠ b → (TX3 a).2.1 ≠ (TX3 b).2.1 := by decide +kernel
theorem tyX3_ok : ∀ k, k < 4 → parseFieldDescriptor (TX3 k).2.2.1 = some (tyX3 k) := by decide +kernel
abbrev cX3_init : ByteArray := prog_5_method_1_code
def yX3_init : MethodName := ⟨RX3, "<init>", "([J)V"⟩
abbrev cX3_hasWord : ByteArray := prog_5_method_2_code
def yX3_hasWord : MethodName := ⟨RX3, "hasWord", "(J)Z"⟩
abbrev cX3_putTo : ByteArray := prog_5_method_3_code
def yX3_putTo : MethodName := ⟨RX3, "putTo", "(LComplaintDesk$Cause;I)Z"⟩
abbrev cX3_isAnswered : ByteArray := prog_5_method_4_code
def yX3_isAnswered : MethodName := ⟨RX3, "isAnswered", "()Z"⟩
abbrev cX3_isWaitingAt : ByteArray := prog_5_method_5_code
def yX3_isWaitingAt : MethodName := ⟨RX3, "isWaitingAt", "(I)Z"⟩
abbrev cX3_isMorePressing : ByteArray := prog_5_method_6_code
def yX3_isMorePressing : MethodName := ⟨RX3, "isMorePressing", "(LComplaintDesk$Point;)Z"⟩
abbrev cX3_isThreat : ByteArray := prog_5_method_7_code
def yX3_isThreat : MethodName := ⟨RX3, "isThreat", "()Z"⟩
abbrev cX3_isCountedAs : ByteArray := prog_5_method_8_code
def yX3_isCountedAs : MethodName := ⟨RX3, "isCountedAs", "(I)Z"⟩
def RX4 : String := "ComplaintDesk$Tape"
def TX4 : u_T := fun k => match k with
  | 0 => ("ComplaintDesk$Tape", "bytes", "[B", true)
  | 1 => ("ComplaintDesk$Tape", "length", "I", false)
  | 2 => ("ComplaintDesk$Tape", "textLength", "I", false)
  | 3 => ("ComplaintDesk$Tape", "thingAt", "I", false)
  | _ => ("ComplaintDesk$Tape", "thingEnd", "I", false)
def tyX4 : Nat → FieldType := fun k => match k with
  | 0 => .array .byte
  | 1 => .int
  | 2 => .int
  | 3 => .int
  | _ => .int
abbrev wsX40 : List Cond := u_ws RX4 TX4 5
theorem nmX4 : ∀ a, a < 5 → ∀ b, b < 5 → a ≠ b → (TX4 a).2.1 ≠ (TX4 b).2.1 := by decide +kernel
theorem tyX4_ok : ∀ k, k < 5 → parseFieldDescriptor (TX4 k).2.2.1 = some (tyX4 k) := by decide +kernel
abbrev cX4_init : ByteArray := prog_6_method_1_code
def yX4_init : MethodName := ⟨RX4, "<init>", "()V"⟩
abbrev cX4_hasRoom : ByteArray := prog_6_method_2_code
def yX4_hasRoom : MethodName := ⟨RX4, "hasRoom", "()Z"⟩
abbrev cX4_append : ByteArray := prog_6_method_3_code
def yX4_append : MethodName := ⟨RX4, "append", "(I)V"⟩
abbrev cX4_shorten : ByteArray := prog_6_method_4_code
def yX4_shorten : MethodName := ⟨RX4, "shorten", "(I)Z"⟩
abbrev cX4_useUp : ByteArray := prog_6_method_5_code
def yX4_useUp : MethodName := ⟨RX4, "useUp", "()V"⟩
abbrev cX4_next : ByteArray := prog_6_method_6_code
def yX4_next : MethodName := ⟨RX4, "next", "()Z"⟩
abbrev cX4_isWord : ByteArray := prog_6_method_7_code
def yX4_isWord : MethodName := ⟨RX4, "isWord", "()Z"⟩
abbrev cX4_isStop : ByteArray := prog_6_method_8_code
def yX4_isStop : MethodName := ⟨RX4, "isStop", "()Z"⟩
abbrev cX4_codeOfThing : ByteArray := prog_6_method_9_code
def yX4_codeOfThing : MethodName := ⟨RX4, "codeOfThing", "()J"⟩
abbrev cX4_isLetterAt : ByteArray := prog_6_method_10_code
def yX4_isLetterAt : MethodName := ⟨RX4, "isLetterAt", "(I)Z"⟩
abbrev cX4_byteAt : ByteArray := prog_6_method_11_code
def yX4_byteAt : MethodName := ⟨RX4, "byteAt", "(I)I"⟩
def RX5 : String := "ComplaintDesk$Words"
def TX5 : u_T := fun k => match k with
  | 0 => ("ComplaintDesk$Words", "codes", "[J", true)
  | 1 => ("ComplaintDesk$Words", "partOf", "[I", true)
  | 2 => ("ComplaintDesk$Words", "size", "I", false)
  | 3 => ("ComplaintDesk$Words", "parts", "I", false)
  | _ => ("ComplaintDesk$Words", "nots", "I", false)
def tyX5 : Nat → FieldType := fun k => match k with
  | 0 => .array .long
  | 1 => .array .int
  | 2 => .int
  | 3 => .int
  | _ => .int
abbrev wsX50 : List Cond := u_ws RX5 TX5 5
theorem nmX5 : ∀ a, a < 5 → ∀ b, b < 5 → a ≠ b → (TX5 a).2.1 ≠ (TX5 b).2.1 := by decide +kernel
theorem tyX5_ok : ∀ k, k < 5 → parseFieldDescriptor (TX5 k).2.2.1 = some (tyX5 k) := by decide +kernel
abbrev cX5_init : ByteArray := prog_7_method_1_code
def yX5_init : MethodName := ⟨RX5, "<init>", "()V"⟩
abbrev cX5_clear : ByteArray := prog_7_method_2_code
def yX5_clear : MethodName := ⟨RX5, "clear", "()V"⟩
abbrev cX5_beginPart : ByteArray := prog_7_method_3_code
def yX5_beginPart : MethodName := ⟨RX5, "beginPart", "()V"⟩
abbrev cX5_add : ByteArray := prog_7_method_4_code
def yX5_add : MethodName := ⟨RX5, "add", "(JZ)V"⟩
abbrev cX5_codesOf : ByteArray := prog_7_method_5_code
def yX5_codesOf : MethodName := ⟨RX5, "codesOf", "(I)[J"⟩
def RX6 : String := "ComplaintDesk"
def TX6 : u_T := fun k => match k with
  | 0 => ("ComplaintDesk", "tape", "LComplaintDesk$Tape;", true)
  | 1 => ("ComplaintDesk", "told", "LComplaintDesk$Words;", true)
  | 2 => ("ComplaintDesk", "faultAt", "I", false)
  | 3 => ("ComplaintDesk", "today", "I", false)
  | 4 => ("ComplaintDesk", "causes", "Ljava/util/ArrayList;", true)
  | 5 => ("ComplaintDesk", "letters", "Ljava/util/ArrayList;", true)
  | 6 => ("ComplaintDesk", "hoursOf", "[I", true)
  | 7 => ("ComplaintDesk", "templates", "[I", true)
  | 8 => ("ComplaintDesk", "templateCount", "I", false)
  | 9 => ("ComplaintDesk", "countOfDay", "[I", true)
  | _ => ("ComplaintDesk", "dueInDays", "[I", true)
def tyX6 : Nat → FieldType := fun k => match k with
  | 0 => .object "ComplaintDesk$Tape"
  | 1 => .object "ComplaintDesk$Words"
  | 2 => .int
  | 3 => .int
  | 4 => .object "java/util/ArrayList"
  | 5 => .object "java/util/ArrayList"
  | 6 => .array .int
  | 7 => .array .int
  | 8 => .int
  | 9 => .array .int
  | _ => .array .int
abbrev wsX60 : List Cond := u_ws RX6 TX6 11
theorem nmX6 : ∀ a, a < 11 → ∀ b, b < 11 → a ≠ b → (TX6 a).2.1 ≠ (TX6 b).2.1 := by decide +kernel
theorem tyX6_ok : ∀ k, k < 11 → parseFieldDescriptor (TX6 k).2.2.1 = some (tyX6 k) := by decide +kernel
abbrev cX6_init : ByteArray := prog_1_method_1_code
def yX6_init : MethodName := ⟨RX6, "<init>", "()V"⟩
abbrev cX6_feed : ByteArray := prog_1_method_2_code
def yX6_feed : MethodName := ⟨RX6, "feed", "(IIIII)I"⟩
abbrev cX6_end : ByteArray := prog_1_method_3_code
def yX6_end : MethodName := ⟨RX6, "end", "(I)Z"⟩
abbrev cX6_cause : ByteArray := prog_1_method_4_code
def yX6_cause : MethodName := ⟨RX6, "cause", "(IIIZ)I"⟩
abbrev cX6_pattern : ByteArray := prog_1_method_5_code
def yX6_pattern : MethodName := ⟨RX6, "pattern", "(I)I"⟩
abbrev cX6_letter : ByteArray := prog_1_method_6_code
def yX6_letter : MethodName := ⟨RX6, "letter", "(I)I"⟩
abbrev cX6_fault : ByteArray := prog_1_method_7_code
def yX6_fault : MethodName := ⟨RX6, "fault", "()I"⟩
abbrev cX6_hours : ByteArray := prog_1_method_8_code
def yX6_hours : MethodName := ⟨RX6, "hours", "(II)V"⟩
abbrev cX6_days : ByteArray := prog_1_method_9_code
def yX6_days : MethodName := ⟨RX6, "days", "(I)I"⟩
abbrev cX6_answer : ByteArray := prog_1_method_10_code
def yX6_answer : MethodName := ⟨RX6, "answer", "(II)Z"⟩
abbrev cX6_point : ByteArray := prog_1_method_11_code
def yX6_point : MethodName := ⟨RX6, "point", "(III)I"⟩
abbrev cX6_look : ByteArray := prog_1_method_12_code
def yX6_look : MethodName := ⟨RX6, "look", "(II)I"⟩
abbrev cX6_late : ByteArray := prog_1_method_13_code
def yX6_late : MethodName := ⟨RX6, "late", "(I)I"⟩
abbrev cX6_waits : ByteArray := prog_1_method_14_code
def yX6_waits : MethodName := ⟨RX6, "waits", "(I)I"⟩
abbrev cX6_template : ByteArray := prog_1_method_15_code
def yX6_template : MethodName := ⟨RX6, "template", "(I)I"⟩
abbrev cX6_counts : ByteArray := prog_1_method_16_code
def yX6_counts : MethodName := ⟨RX6, "counts", "(II)I"⟩
abbrev cX6_wave : ByteArray := prog_1_method_17_code
def yX6_wave : MethodName := ⟨RX6, "wave", "(I)I"⟩
abbrev cX6_count : ByteArray := prog_1_method_18_code
def yX6_count : MethodName := ⟨RX6, "count", "(I)I"⟩
abbrev cX6_causeAt : ByteArray := prog_1_method_19_code
def yX6_causeAt : MethodName := ⟨RX6, "causeAt", "(I)LComplaintDesk$Cause;"⟩
abbrev cX6_letterAt : ByteArray := prog_1_method_20_code
def yX6_letterAt : MethodName := ⟨RX6, "letterAt", "(I)LComplaintDesk$Letter;"⟩
abbrev cX6_checkDesk : ByteArray := prog_1_method_21_code
def yX6_checkDesk : MethodName := ⟨RX6, "checkDesk", "(I)V"⟩
abbrev cX6_readPattern : ByteArray := prog_1_method_22_code
def yX6_readPattern : MethodName := ⟨RX6, "readPattern", "()LComplaintDesk$Pattern;"⟩
abbrev cX6_causeOf : ByteArray := prog_1_method_23_code
def yX6_causeOf : MethodName := ⟨RX6, "causeOf", "(LComplaintDesk$Point;)LComplaintDesk$Cause;"⟩
abbrev cX6_sortAnew : ByteArray := prog_1_method_24_code
def yX6_sortAnew : MethodName := ⟨RX6, "sortAnew", "()I"⟩
abbrev cX6_work : ByteArray := prog_1_method_25_code
def yX6_work : MethodName := ⟨RX6, "work", "(I)V"⟩
abbrev cX6_firstWaiting : ByteArray := prog_1_method_26_code
def yX6_firstWaiting : MethodName := ⟨RX6, "firstWaiting", "(I)LComplaintDesk$Point;"⟩
abbrev cX6_matter : ByteArray := prog_1_method_27_code
def yX6_matter : MethodName := ⟨RX6, "matter", "(ILComplaintDesk$Cause;)I"⟩
abbrev cX6_fewestTemplates : ByteArray := prog_1_method_28_code
def yX6_fewestTemplates : MethodName := ⟨RX6, "fewestTemplates", "(I)I"⟩
abbrev cX6_causesOfSet : ByteArray := prog_1_method_29_code
def yX6_causesOfSet : MethodName := ⟨RX6, "causesOfSet", "(I)I"⟩
abbrev cX6_fillDueInDays : ByteArray := prog_1_method_30_code
def yX6_fillDueInDays : MethodName := ⟨RX6, "fillDueInDays", "(I)I"⟩
abbrev cX6_fillCountOfDay : ByteArray := prog_1_method_31_code
def yX6_fillCountOfDay : MethodName := ⟨RX6, "fillCountOfDay", "(LComplaintDesk$Cause;)V"⟩
abbrev cX6_isRare : ByteArray := prog_1_method_32_code
def yX6_isRare : MethodName := ⟨RX6, "isRare", "(I)Z"⟩
abbrev cX6_closedLetters : ByteArray := prog_1_method_33_code
def yX6_closedLetters : MethodName := ⟨RX6, "closedLetters", "()I"⟩
abbrev cX6_pointsCounted : ByteArray := prog_1_method_34_code
def yX6_pointsCounted : MethodName := ⟨RX6, "pointsCounted", "(I)I"⟩
def RX7 : String := "ComplaintDeskModel"
def TX7 : u_T := fun k => match k with
  | 0 => ("ComplaintDeskModel", "thrown", "I", false)
  | 1 => ("ComplaintDeskModel", "today", "I", false)
  | 2 => ("ComplaintDeskModel", "above", "[I", true)
  | 3 => ("ComplaintDeskModel", "desk", "[I", true)
  | 4 => ("ComplaintDeskModel", "dueIn", "[I", true)
  | 5 => ("ComplaintDeskModel", "isThreat", "[Z", true)
  | 6 => ("ComplaintDeskModel", "many", "[I", true)
  | 7 => ("ComplaintDeskModel", "letter", "[B", true)
  | 8 => ("ComplaintDeskModel", "size", "[I", true)
  | 9 => ("ComplaintDeskModel", "isNot", "[Z", true)
  | 10 => ("ComplaintDeskModel", "isOr", "[Z", true)
  | 11 => ("ComplaintDeskModel", "causes", "I", false)
  | 12 => ("ComplaintDeskModel", "hours", "[I", true)
  | 13 => ("ComplaintDeskModel", "writer", "[I", true)
  | 14 => ("ComplaintDeskModel", "came", "[I", true)
  | 15 => ("ComplaintDeskModel", "points", "[I", true)
  | 16 => ("ComplaintDeskModel", "words", "[I", true)
  | 17 => ("ComplaintDeskModel", "text", "[B", true)
  | 18 => ("ComplaintDeskModel", "from", "[I", true)
  | 19 => ("ComplaintDeskModel", "to", "[I", true)
  | 20 => ("ComplaintDeskModel", "of", "[I", true)
  | 21 => ("ComplaintDeskModel", "letters", "I", false)
  | 22 => ("ComplaintDeskModel", "causeOf", "[I", true)
  | 23 => ("ComplaintDeskModel", "due", "[I", true)
  | 24 => ("ComplaintDeskModel", "answered", "[I", true)
  | 25 => ("ComplaintDeskModel", "template", "[I", true)
  | 26 => ("ComplaintDeskModel", "templates", "I", false)
  | 27 => ("ComplaintDeskModel", "tape", "[B", true)
  | 28 => ("ComplaintDeskModel", "taped", "I", false)
  | 29 => ("ComplaintDeskModel", "point", "I", false)
  | 30 => ("ComplaintDeskModel", "end", "I", false)
  | 31 => ("ComplaintDeskModel", "begin", "I", false)
  | 32 => ("ComplaintDeskModel", "faultAt", "I", false)
  | 33 => ("ComplaintDeskModel", "five", "[I", true)
  | _ => ("ComplaintDeskModel", "count", "[I", true)
def tyX7 : Nat → FieldType := fun k => match k with
  | 0 => .int
  | 1 => .int
  | 2 => .array .int
  | 3 => .array .int
  | 4 => .array .int
  | 5 => .array .boolean
  | 6 => .array .int
  | 7 => .array .byte
  | 8 => .array .int
  | 9 => .array .boolean
  | 10 => .array .boolean
  | 11 => .int
  | 12 => .array .int
  | 13 => .array .int
  | 14 => .array .int
  | 15 => .array .int
  | 16 => .array .int
  | 17 => .array .byte
  | 18 => .array .int
  | 19 => .array .int
  | 20 => .array .int
  | 21 => .int
  | 22 => .array .int
  | 23 => .array .int
  | 24 => .array .int
  | 25 => .array .int
  | 26 => .int
  | 27 => .array .byte
  | 28 => .int
  | 29 => .int
  | 30 => .int
  | 31 => .int
  | 32 => .int
  | 33 => .array .int
  | _ => .array .int
abbrev wsX70 : List Cond := u_ws RX7 TX7 35
theorem nmX7 : ∀ a, a < 35 → ∀ b, b < 35 → a ≠ b → (TX7 a).2.1 ≠ (TX7 b).2.1 := by decide +kernel
theorem tyX7_ok : ∀ k, k < 35 → parseFieldDescriptor (TX7 k).2.2.1 = some (tyX7 k) := by decide +kernel
abbrev cX7_init : ByteArray := prog_9_method_1_code
def yX7_init : MethodName := ⟨RX7, "<init>", "()V"⟩
abbrev cX7_thrown : ByteArray := prog_9_method_2_code
def yX7_thrown : MethodName := ⟨RX7, "thrown", "()I"⟩
abbrev cX7_throwsIf : ByteArray := prog_9_method_3_code
def yX7_throwsIf : MethodName := ⟨RX7, "throwsIf", "(ZI)Z"⟩
abbrev cX7_in : ByteArray := prog_9_method_4_code
def yX7_in : MethodName := ⟨RX7, "in", "(III)Z"⟩
abbrev cX7_noCause : ByteArray := prog_9_method_5_code
def yX7_noCause : MethodName := ⟨RX7, "noCause", "(I)Z"⟩
abbrev cX7_noLetter : ByteArray := prog_9_method_6_code
def yX7_noLetter : MethodName := ⟨RX7, "noLetter", "(I)Z"⟩
abbrev cX7_noPoint : ByteArray := prog_9_method_7_code
def yX7_noPoint : MethodName := ⟨RX7, "noPoint", "(II)Z"⟩
abbrev cX7_noDesk : ByteArray := prog_9_method_8_code
def yX7_noDesk : MethodName := ⟨RX7, "noDesk", "(I)Z"⟩
abbrev cX7_feed : ByteArray := prog_9_method_9_code
def yX7_feed : MethodName := ⟨RX7, "feed", "(IIIII)I"⟩
abbrev cX7_end : ByteArray := prog_9_method_10_code
def yX7_end : MethodName := ⟨RX7, "end", "(I)Z"⟩
abbrev cX7_uses : ByteArray := prog_9_method_11_code
def yX7_uses : MethodName := ⟨RX7, "uses", "()V"⟩
abbrev cX7_isAt : ByteArray := prog_9_method_12_code
def yX7_isAt : MethodName := ⟨RX7, "isAt", "(II)Z"⟩
abbrev cX7_blanks : ByteArray := prog_9_method_13_code
def yX7_blanks : MethodName := ⟨RX7, "blanks", "()V"⟩
abbrev cX7_word : ByteArray := prog_9_method_14_code
def yX7_word : MethodName := ⟨RX7, "word", "()V"⟩
abbrev cX7_isWord : ByteArray := prog_9_method_15_code
def yX7_isWord : MethodName := ⟨RX7, "isWord", "(Ljava/lang/String;)Z"⟩
abbrev cX7_isSign : ByteArray := prog_9_method_16_code
def yX7_isSign : MethodName := ⟨RX7, "isSign", "()Z"⟩
abbrev cX7_readPattern : ByteArray := prog_9_method_17_code
def yX7_readPattern : MethodName := ⟨RX7, "readPattern", "()Z"⟩
abbrev cX7_readsPattern : ByteArray := prog_9_method_18_code
def yX7_readsPattern : MethodName := ⟨RX7, "readsPattern", "()Z"⟩
abbrev cX7_setsPattern : ByteArray := prog_9_method_19_code
def yX7_setsPattern : MethodName := ⟨RX7, "setsPattern", "(I)V"⟩
abbrev cX7_readLetter : ByteArray := prog_9_method_20_code
def yX7_readLetter : MethodName := ⟨RX7, "readLetter", "()Z"⟩
abbrev cX7_fault : ByteArray := prog_9_method_21_code
def yX7_fault : MethodName := ⟨RX7, "fault", "()I"⟩
abbrev cX7_isSame : ByteArray := prog_9_method_22_code
def yX7_isSame : MethodName := ⟨RX7, "isSame", "(III)Z"⟩
abbrev cX7_hasWord : ByteArray := prog_9_method_23_code
def yX7_hasWord : MethodName := ⟨RX7, "hasWord", "(III)Z"⟩
abbrev cX7_fits : ByteArray := prog_9_method_24_code
def yX7_fits : MethodName := ⟨RX7, "fits", "(III)Z"⟩
abbrev cX7_below : ByteArray := prog_9_method_25_code
def yX7_below : MethodName := ⟨RX7, "below", "(III)I"⟩
abbrev cX7_sorted : ByteArray := prog_9_method_26_code
def yX7_sorted : MethodName := ⟨RX7, "sorted", "(II)I"⟩
abbrev cX7_puts : ByteArray := prog_9_method_27_code
def yX7_puts : MethodName := ⟨RX7, "puts", "(III)V"⟩
abbrev cX7_cause : ByteArray := prog_9_method_28_code
def yX7_cause : MethodName := ⟨RX7, "cause", "(IIIZ)I"⟩
abbrev cX7_pattern : ByteArray := prog_9_method_29_code
def yX7_pattern : MethodName := ⟨RX7, "pattern", "(I)I"⟩
abbrev cX7_letter : ByteArray := prog_9_method_30_code
def yX7_letter : MethodName := ⟨RX7, "letter", "(I)I"⟩
abbrev cX7_hours : ByteArray := prog_9_method_31_code
def yX7_hours : MethodName := ⟨RX7, "hours", "(II)V"⟩
abbrev cX7_isOf : ByteArray := prog_9_method_32_code
def yX7_isOf : MethodName := ⟨RX7, "isOf", "(II)Z"⟩
abbrev cX7_isAhead : ByteArray := prog_9_method_33_code
def yX7_isAhead : MethodName := ⟨RX7, "isAhead", "(II)Z"⟩
abbrev cX7_next : ByteArray := prog_9_method_34_code
def yX7_next : MethodName := ⟨RX7, "next", "(I)I"⟩
abbrev cX7_days : ByteArray := prog_9_method_35_code
def yX7_days : MethodName := ⟨RX7, "days", "(I)I"⟩
abbrev cX7_answer : ByteArray := prog_9_method_36_code
def yX7_answer : MethodName := ⟨RX7, "answer", "(II)Z"⟩
abbrev cX7_waits : ByteArray := prog_9_method_37_code
def yX7_waits : MethodName := ⟨RX7, "waits", "(I)I"⟩
abbrev cX7_late : ByteArray := prog_9_method_38_code
def yX7_late : MethodName := ⟨RX7, "late", "(I)I"⟩
abbrev cX7_point : ByteArray := prog_9_method_39_code
def yX7_point : MethodName := ⟨RX7, "point", "(III)I"⟩
abbrev cX7_isClosed : ByteArray := prog_9_method_40_code
def yX7_isClosed : MethodName := ⟨RX7, "isClosed", "(I)Z"⟩
abbrev cX7_theAnswer : ByteArray := prog_9_method_41_code
def yX7_theAnswer : MethodName := ⟨RX7, "theAnswer", "(I)I"⟩
abbrev cX7_look : ByteArray := prog_9_method_42_code
def yX7_look : MethodName := ⟨RX7, "look", "(II)I"⟩
abbrev cX7_template : ByteArray := prog_9_method_43_code
def yX7_template : MethodName := ⟨RX7, "template", "(I)I"⟩
abbrev cX7_isUnder : ByteArray := prog_9_method_44_code
def yX7_isUnder : MethodName := ⟨RX7, "isUnder", "(II)Z"⟩
abbrev cX7_counted : ByteArray := prog_9_method_45_code
def yX7_counted : MethodName := ⟨RX7, "counted", "(I)V"⟩
abbrev cX7_counts : ByteArray := prog_9_method_46_code
def yX7_counts : MethodName := ⟨RX7, "counts", "(II)I"⟩
abbrev cX7_wave : ByteArray := prog_9_method_47_code
def yX7_wave : MethodName := ⟨RX7, "wave", "(I)I"⟩
abbrev cX7_count : ByteArray := prog_9_method_48_code
def yX7_count : MethodName := ⟨RX7, "count", "(I)I"⟩
def RJx145de : String := "java/io/Serializable"
def TJx145de : u_T := fun k => match k with
  | _ => ("", "", "", false)
def tyJx145de : Nat → FieldType := fun k => match k with
  | _ => .int
abbrev wsJx145de0 : List Cond := u_ws RJx145de TJx145de 0
theorem nmJx145de : ∀ a, a < 0 → ∀ b, b < 0 → a ≠ b → (TJx145de a).2.1 ≠ (TJx145de b).2.1 := by decide +kernel
theorem tyJx145de_ok : ∀ k, k < 0 → parseFieldDescriptor (TJx145de k).2.2.1 = some (tyJx145de k) := by decide +kernel
def RJ5 : String := "java/lang/AbstractStringBuilder"
def TJ5 : u_T := fun k => match k with
  | _ => ("", "", "", false)
def tyJ5 : Nat → FieldType := fun k => match k with
  | _ => .int
abbrev wsJ50 : List Cond := u_ws RJ5 TJ5 0
theorem nmJ5 : ∀ a, a < 0 → ∀ b, b < 0 → a ≠ b → (TJ5 a).2.1 ≠ (TJ5 b).2.1 := by decide +kernel
theorem tyJ5_ok : ∀ k, k < 0 → parseFieldDescriptor (TJ5 k).2.2.1 = some (tyJ5 k) := by decide +kernel
abbrev cJ5_init_d00df : ByteArray := prog_11_method_2_code
def yJ5_init_d00df : MethodName := ⟨RJ5, "<init>", "(I)V"⟩
abbrev cJ5_length_8abf5 : ByteArray := prog_11_method_6_code
def yJ5_length_8abf5 : MethodName := ⟨RJ5, "length", "()I"⟩
abbrev cJ5_ensureCapacityInternal_d00df : ByteArray := prog_11_method_9_code
def yJ5_ensureCapacityInternal_d00df : MethodName := ⟨RJ5, "ensureCapacityInternal", "(I)V"⟩
abbrev cJ5_newCapacity_0f7a4 : ByteArray := prog_11_method_10_code
def yJ5_newCapacity_0f7a4 : MethodName := ⟨RJ5, "newCapacity", "(I)I"⟩
abbrev cJ5_inflate_da8c8 : ByteArray := prog_11_method_11_code
def yJ5_inflate_da8c8 : MethodName := ⟨RJ5, "inflate", "()V"⟩
abbrev cJ5_append_cf1ce : ByteArray := prog_11_method_22_code
def yJ5_append_cf1ce : MethodName := ⟨RJ5, "append", "(Ljava/lang/String;)Ljava/lang/AbstractStringBuilder;"⟩
abbrev cJ5_appendNull_278bc : ByteArray := prog_11_method_26_code
def yJ5_appendNull_278bc : MethodName := ⟨RJ5, "appendNull", "()Ljava/lang/AbstractStringBuilder;"⟩
abbrev cJ5_append_c97b9 : ByteArray := prog_11_method_32_code
def yJ5_append_c97b9 : MethodName := ⟨RJ5, "append", "(I)Ljava/lang/AbstractStringBuilder;"⟩
abbrev cJ5_getValue_6d5f1 : ByteArray := prog_11_method_64_code
def yJ5_getValue_6d5f1 : MethodName := ⟨RJ5, "getValue", "()[B"⟩
abbrev cJ5_isLatin1_aae02 : ByteArray := prog_11_method_68_code
def yJ5_isLatin1_aae02 : MethodName := ⟨RJ5, "isLatin1", "()Z"⟩
abbrev cJ5_inflateIfNeededFor_a7421 : ByteArray := prog_11_method_71_code
def yJ5_inflateIfNeededFor_a7421 : MethodName := ⟨RJ5, "inflateIfNeededFor", "(Ljava/lang/String;)V"⟩
abbrev cJ5_putStringAt_47b60 : ByteArray := prog_11_method_73_code
def yJ5_putStringAt_47b60 : MethodName := ⟨RJ5, "putStringAt", "(ILjava/lang/String;)V"⟩
def RJx2cfe8 : String := "java/lang/Appendable"
def TJx2cfe8 : u_T := fun k => match k with
  | _ => ("", "", "", false)
def tyJx2cfe8 : Nat → FieldType := fun k => match k with
  | _ => .int
abbrev wsJx2cfe80 : List Cond := u_ws RJx2cfe8 TJx2cfe8 0
theorem nmJx2cfe8 : ∀ a, a < 0 → ∀ b, b < 0 → a ≠ b → (TJx2cfe8 a).2.1 ≠ (TJx2cfe8 b).2.1 := by decide +kernel
theorem tyJx2cfe8_ok : ∀ k, k < 0 → parseFieldDescriptor (TJx2cfe8 k).2.2.1 = some (tyJx2cfe8 k) := by decide +kernel
def RJx9f9b0 : String := "java/lang/CharSequence"
def TJx9f9b0 : u_T := fun k => match k with
  | _ => ("", "", "", false)
def tyJx9f9b0 : Nat → FieldType := fun k => match k with
  | _ => .int
abbrev wsJx9f9b00 : List Cond := u_ws RJx9f9b0 TJx9f9b0 0
theorem nmJx9f9b0 : ∀ a, a < 0 → ∀ b, b < 0 → a ≠ b → (TJx9f9b0 a).2.1 ≠ (TJx9f9b0 b).2.1 := by decide +kernel
theorem tyJx9f9b0_ok : ∀ k, k < 0 → parseFieldDescriptor (TJx9f9b0 k).2.2.1 = some (tyJx9f9b0 k) := by decide +kernel
def RJx8e188 : String := "java/lang/Cloneable"
def TJx8e188 : u_T := fun k => match k with
  | _ => ("", "", "", false)
def tyJx8e188 : Nat → FieldType := fun k => match k with
  | _ => .int
abbrev wsJx8e1880 : List Cond := u_ws RJx8e188 TJx8e188 0
theorem nmJx8e188 : ∀ a, a < 0 → ∀ b, b < 0 → a ≠ b → (TJx8e188 a).2.1 ≠ (TJx8e188 b).2.1 := by decide +kernel
theorem tyJx8e188_ok : ∀ k, k < 0 → parseFieldDescriptor (TJx8e188 k).2.2.1 = some (tyJx8e188 k) := by decide +kernel
def RJxb160c : String := "java/lang/Comparable"
def TJxb160c : u_T := fun k => match k with
  | _ => ("", "", "", false)
def tyJxb160c : Nat → FieldType := fun k => match k with
  | _ => .int
abbrev wsJxb160c0 : List Cond := u_ws RJxb160c TJxb160c 0
theorem nmJxb160c : ∀ a, a < 0 → ∀ b, b < 0 → a ≠ b → (TJxb160c a).2.1 ≠ (TJxb160c b).2.1 := by decide +kernel
theorem tyJxb160c_ok : ∀ k, k < 0 → parseFieldDescriptor (TJxb160c k).2.2.1 = some (tyJxb160c k) := by decide +kernel
def RJ6 : String := "java/lang/Integer"
def TJ6 : u_T := fun k => match k with
  | _ => ("", "", "", false)
def tyJ6 : Nat → FieldType := fun k => match k with
  | _ => .int
abbrev wsJ60 : List Cond := u_ws RJ6 TJ6 0
theorem nmJ6 : ∀ a, a < 0 → ∀ b, b < 0 → a ≠ b → (TJ6 a).2.1 ≠ (TJ6 b).2.1 := by decide +kernel
theorem tyJ6_ok : ∀ k, k < 0 → parseFieldDescriptor (TJ6 k).2.2.1 = some (tyJ6 k) := by decide +kernel
abbrev cJ6_getChars_ba4f3 : ByteArray := prog_19_method_12_code
def yJ6_getChars_ba4f3 : MethodName := ⟨RJ6, "getChars", "(II[B)I"⟩
abbrev cJ6_stringSize_0f7a4 : ByteArray := prog_19_method_13_code
def yJ6_stringSize_0f7a4 : MethodName := ⟨RJ6, "stringSize", "(I)I"⟩
abbrev cJ6_bitCount_0f7a4 : ByteArray := prog_19_method_49_code
def yJ6_bitCount_0f7a4 : MethodName := ⟨RJ6, "bitCount", "(I)I"⟩
def RJxab1ab : String := "java/lang/Iterable"
def TJxab1ab : u_T := fun k => match k with
  | _ => ("", "", "", false)
def tyJxab1ab : Nat → FieldType := fun k => match k with
  | _ => .int
abbrev wsJxab1ab0 : List Cond := u_ws RJxab1ab TJxab1ab 0
theorem nmJxab1ab : ∀ a, a < 0 → ∀ b, b < 0 → a ≠ b → (TJxab1ab a).2.1 ≠ (TJxab1ab b).2.1 := by decide +kernel
theorem tyJxab1ab_ok : ∀ k, k < 0 → parseFieldDescriptor (TJxab1ab k).2.2.1 = some (tyJxab1ab k) := by decide +kernel
def RJ9 : String := "java/lang/Math"
def TJ9 : u_T := fun k => match k with
  | _ => ("", "", "", false)
def tyJ9 : Nat → FieldType := fun k => match k with
  | _ => .int
abbrev wsJ90 : List Cond := u_ws RJ9 TJ9 0
theorem nmJ9 : ∀ a, a < 0 → ∀ b, b < 0 → a ≠ b → (TJ9 a).2.1 ≠ (TJ9 b).2.1 := by decide +kernel
theorem tyJ9_ok : ∀ k, k < 0 → parseFieldDescriptor (TJ9 k).2.2.1 = some (tyJ9 k) := by decide +kernel
abbrev cJ9_max_7cf53 : ByteArray := prog_21_method_65_code
def yJ9_max_7cf53 : MethodName := ⟨RJ9, "max", "(II)I"⟩
abbrev cJ9_min_7cf53 : ByteArray := prog_21_method_69_code
def yJ9_min_7cf53 : MethodName := ⟨RJ9, "min", "(II)I"⟩
def RJxd2413 : String := "java/lang/Number"
def TJxd2413 : u_T := fun k => match k with
  | _ => ("", "", "", false)
def tyJxd2413 : Nat → FieldType := fun k => match k with
  | _ => .int
abbrev wsJxd24130 : List Cond := u_ws RJxd2413 TJxd2413 0
theorem nmJxd2413 : ∀ a, a < 0 → ∀ b, b < 0 → a ≠ b → (TJxd2413 a).2.1 ≠ (TJxd2413 b).2.1 := by decide +kernel
theorem tyJxd2413_ok : ∀ k, k < 0 → parseFieldDescriptor (TJxd2413 k).2.2.1 = some (tyJxd2413 k) := by decide +kernel
def RJ0 : String := "java/lang/String"
def TJ0 : u_T := fun k => match k with
  | 0 => ("java/lang/String", "value", "[B", true)
  | 1 => ("java/lang/String", "coder", "B", true)
  | 2 => ("java/lang/String", "hash", "I", false)
  | _ => ("java/lang/String", "hashIsZero", "Z", false)
def tyJ0 : Nat → FieldType := fun k => match k with
  | 0 => .array .byte
  | 1 => .byte
  | 2 => .int
  | _ => .boolean
abbrev wsJ00 : List Cond := u_ws RJ0 TJ0 4
theorem nmJ0 : ∀ a, a < 4 → ∀ b, b < 4 → a ≠ b → (TJ0 a).2.1 ≠ (TJ0 b).2.1 := by decide +kernel
theorem tyJ0_ok : ∀ k, k < 4 → parseFieldDescriptor (TJ0 k).2.2.1 = some (tyJ0 k) := by decide +kernel
abbrev cJ0_init_81219 : ByteArray := prog_24_method_53_code
def yJ0_init_81219 : MethodName := ⟨RJ0, "<init>", "(Ljava/lang/StringBuilder;)V"⟩
abbrev cJ0_length_8abf5 : ByteArray := prog_24_method_54_code
def yJ0_length_8abf5 : MethodName := ⟨RJ0, "length", "()I"⟩
abbrev cJ0_charAt_5068e : ByteArray := prog_24_method_56_code
def yJ0_charAt_5068e : MethodName := ⟨RJ0, "charAt", "(I)C"⟩
abbrev cJ0_getBytes_840e7 : ByteArray := prog_24_method_147_code
def yJ0_getBytes_840e7 : MethodName := ⟨RJ0, "getBytes", "([BIB)V"⟩
abbrev cJ0_init_db425 : ByteArray := prog_24_method_150_code
def yJ0_init_db425 : MethodName := ⟨RJ0, "<init>", "(Ljava/lang/AbstractStringBuilder;Ljava/lang/Void;)V"⟩
abbrev cJ0_coder_7d493 : ByteArray := prog_24_method_152_code
def yJ0_coder_7d493 : MethodName := ⟨RJ0, "coder", "()B"⟩
abbrev cJ0_isLatin1_aae02 : ByteArray := prog_24_method_154_code
def yJ0_isLatin1_aae02 : MethodName := ⟨RJ0, "isLatin1", "()Z"⟩
abbrev cJ0_checkIndex_df160 : ByteArray := prog_24_method_155_code
def yJ0_checkIndex_df160 : MethodName := ⟨RJ0, "checkIndex", "(II)V"⟩
abbrev cJ0_checkBoundsOffCount_cabcc : ByteArray := prog_24_method_157_code
def yJ0_checkBoundsOffCount_cabcc : MethodName := ⟨RJ0, "checkBoundsOffCount", "(III)I"⟩
abbrev cJ0_checkBoundsBeginEnd_23922 : ByteArray := prog_24_method_158_code
def yJ0_checkBoundsBeginEnd_23922 : MethodName := ⟨RJ0, "checkBoundsBeginEnd", "(III)V"⟩
def RJ4 : String := "java/lang/StringBuilder"
def TJ4 : u_T := fun k => match k with
  | 0 => ("java/lang/AbstractStringBuilder", "value", "[B", false)
  | 1 => ("java/lang/AbstractStringBuilder", "coder", "B", false)
  | 2 => ("java/lang/AbstractStringBuilder", "maybeLatin1", "Z", false)
  | _ => ("java/lang/AbstractStringBuilder", "count", "I", false)
def tyJ4 : Nat → FieldType := fun k => match k with
  | 0 => .array .byte
  | 1 => .byte
  | 2 => .boolean
  | _ => .int
abbrev wsJ40 : List Cond := u_ws RJ4 TJ4 4
theorem nmJ4 : ∀ a, a < 4 → ∀ b, b < 4 → a ≠ b → (TJ4 a).2.1 ≠ (TJ4 b).2.1 := by decide +kernel
theorem tyJ4_ok : ∀ k, k < 4 → parseFieldDescriptor (TJ4 k).2.2.1 = some (tyJ4 k) := by decide +kernel
abbrev cJ4_init_da8c8 : ByteArray := prog_25_method_1_code
def yJ4_init_da8c8 : MethodName := ⟨RJ4, "<init>", "()V"⟩
abbrev cJ4_append_15ec4 : ByteArray := prog_25_method_7_code
def yJ4_append_15ec4 : MethodName := ⟨RJ4, "append", "(Ljava/lang/String;)Ljava/lang/StringBuilder;"⟩
abbrev cJ4_append_bf812 : ByteArray := prog_25_method_15_code
def yJ4_append_bf812 : MethodName := ⟨RJ4, "append", "(I)Ljava/lang/StringBuilder;"⟩
abbrev cJ4_toString_0e30d : ByteArray := prog_25_method_42_code
def yJ4_toString_0e30d : MethodName := ⟨RJ4, "toString", "()Ljava/lang/String;"⟩
abbrev cJ4_length_8abf5 : ByteArray := prog_25_method_93_code
def yJ4_length_8abf5 : MethodName := ⟨RJ4, "length", "()I"⟩
def RJ1 : String := "java/lang/StringLatin1"
def TJ1 : u_T := fun k => match k with
  | _ => ("", "", "", false)
def tyJ1 : Nat → FieldType := fun k => match k with
  | _ => .int
abbrev wsJ10 : List Cond := u_ws RJ1 TJ1 0
theorem nmJ1 : ∀ a, a < 0 → ∀ b, b < 0 → a ≠ b → (TJ1 a).2.1 ≠ (TJ1 b).2.1 := by decide +kernel
theorem tyJ1_ok : ∀ k, k < 0 → parseFieldDescriptor (TJ1 k).2.2.1 = some (tyJ1 k) := by decide +kernel
abbrev cJ1_charAt_3b067 : ByteArray := prog_26_method_2_code
def yJ1_charAt_3b067 : MethodName := ⟨RJ1, "charAt", "([BI)C"⟩
abbrev cJ1_inflate_0e8fd : ByteArray := prog_26_method_50_code
def yJ1_inflate_0e8fd : MethodName := ⟨RJ1, "inflate", "([BI[BII)V"⟩
def RJ2 : String := "java/lang/StringUTF16"
def TJ2 : u_T := fun k => match k with
  | _ => ("", "", "", false)
def tyJ2 : Nat → FieldType := fun k => match k with
  | _ => .int
abbrev wsJ20 : List Cond := u_ws RJ2 TJ2 0
theorem nmJ2 : ∀ a, a < 0 → ∀ b, b < 0 → a ≠ b → (TJ2 a).2.1 ≠ (TJ2 b).2.1 := by decide +kernel
theorem tyJ2_ok : ∀ k, k < 0 → parseFieldDescriptor (TJ2 k).2.2.1 = some (tyJ2 k) := by decide +kernel
abbrev cJ2_newBytesFor_77867 : ByteArray := prog_27_method_2_code
def yJ2_newBytesFor_77867 : MethodName := ⟨RJ2, "newBytesFor", "(I)[B"⟩
abbrev cJ2_newBytesLength_0f7a4 : ByteArray := prog_27_method_3_code
def yJ2_newBytesLength_0f7a4 : MethodName := ⟨RJ2, "newBytesLength", "(I)I"⟩
abbrev cJ2_putChar_b72d1 : ByteArray := prog_27_method_4_code
def yJ2_putChar_b72d1 : MethodName := ⟨RJ2, "putChar", "([BII)V"⟩
abbrev cJ2_getChar_3b067 : ByteArray := prog_27_method_5_code
def yJ2_getChar_3b067 : MethodName := ⟨RJ2, "getChar", "([BI)C"⟩
abbrev cJ2_length_9d52b : ByteArray := prog_27_method_6_code
def yJ2_length_9d52b : MethodName := ⟨RJ2, "length", "([B)I"⟩
abbrev cJ2_coderFromArrayLen_85cad : ByteArray := prog_27_method_15_code
def yJ2_coderFromArrayLen_85cad : MethodName := ⟨RJ2, "coderFromArrayLen", "([BI)B"⟩
abbrev cJ2_compress_39247 : ByteArray := prog_27_method_17_code
def yJ2_compress_39247 : MethodName := ⟨RJ2, "compress", "([BII)[B"⟩
abbrev cJ2_compress_5af95 : ByteArray := prog_27_method_22_code
def yJ2_compress_5af95 : MethodName := ⟨RJ2, "compress", "([BI[BII)I"⟩
abbrev cJ2_getChars_46870 : ByteArray := prog_27_method_77_code
def yJ2_getChars_46870 : MethodName := ⟨RJ2, "getChars", "(III[B)I"⟩
abbrev cJ2_putCharsAt_cd4e5 : ByteArray := prog_27_method_81_code
def yJ2_putCharsAt_cd4e5 : MethodName := ⟨RJ2, "putCharsAt", "([BICCCC)I"⟩
abbrev cJ2_charAt_3b067 : ByteArray := prog_27_method_83_code
def yJ2_charAt_3b067 : MethodName := ⟨RJ2, "charAt", "([BI)C"⟩
abbrev cJ2_inflate_0e8fd : ByteArray := prog_27_method_86_code
def yJ2_inflate_0e8fd : MethodName := ⟨RJ2, "inflate", "([BI[BII)V"⟩
abbrev cJ2_getChars_ba4f3 : ByteArray := prog_27_method_89_code
def yJ2_getChars_ba4f3 : MethodName := ⟨RJ2, "getChars", "(II[B)I"⟩
abbrev cJ2_checkIndex_2214a : ByteArray := prog_27_method_91_code
def yJ2_checkIndex_2214a : MethodName := ⟨RJ2, "checkIndex", "(I[B)V"⟩
abbrev cJ2_checkBoundsBeginEnd_d044e : ByteArray := prog_27_method_93_code
def yJ2_checkBoundsBeginEnd_d044e : MethodName := ⟨RJ2, "checkBoundsBeginEnd", "(II[B)V"⟩
abbrev cJ2_checkBoundsOffCount_d044e : ByteArray := prog_27_method_94_code
def yJ2_checkBoundsOffCount_d044e : MethodName := ⟨RJ2, "checkBoundsOffCount", "(II[B)V"⟩
def RJ10 : String := "java/lang/System"
def TJ10 : u_T := fun k => match k with
  | _ => ("", "", "", false)
def tyJ10 : Nat → FieldType := fun k => match k with
  | _ => .int
abbrev wsJ100 : List Cond := u_ws RJ10 TJ10 0
theorem nmJ10 : ∀ a, a < 0 → ∀ b, b < 0 → a ≠ b → (TJ10 a).2.1 ≠ (TJ10 b).2.1 := by decide +kernel
theorem tyJ10_ok : ∀ k, k < 0 → parseFieldDescriptor (TJ10 k).2.2.1 = some (tyJ10 k) := by decide +kernel
def RJxfd54e : String := "java/lang/constant/Constable"
def TJxfd54e : u_T := fun k => match k with
  | _ => ("", "", "", false)
def tyJxfd54e : Nat → FieldType := fun k => match k with
  | _ => .int
abbrev wsJxfd54e0 : List Cond := u_ws RJxfd54e TJxfd54e 0
theorem nmJxfd54e : ∀ a, a < 0 → ∀ b, b < 0 → a ≠ b → (TJxfd54e a).2.1 ≠ (TJxfd54e b).2.1 := by decide +kernel
theorem tyJxfd54e_ok : ∀ k, k < 0 → parseFieldDescriptor (TJxfd54e k).2.2.1 = some (tyJxfd54e k) := by decide +kernel
def RJx3cf43 : String := "java/lang/constant/ConstantDesc"
def TJx3cf43 : u_T := fun k => match k with
  | _ => ("", "", "", false)
def tyJx3cf43 : Nat → FieldType := fun k => match k with
  | _ => .int
abbrev wsJx3cf430 : List Cond := u_ws RJx3cf43 TJx3cf43 0
theorem nmJx3cf43 : ∀ a, a < 0 → ∀ b, b < 0 → a ≠ b → (TJx3cf43 a).2.1 ≠ (TJx3cf43 b).2.1 := by decide +kernel
theorem tyJx3cf43_ok : ∀ k, k < 0 → parseFieldDescriptor (TJx3cf43 k).2.2.1 = some (tyJx3cf43 k) := by decide +kernel
def RJxa1e45 : String := "java/util/AbstractCollection"
def TJxa1e45 : u_T := fun k => match k with
  | _ => ("", "", "", false)
def tyJxa1e45 : Nat → FieldType := fun k => match k with
  | _ => .int
abbrev wsJxa1e450 : List Cond := u_ws RJxa1e45 TJxa1e45 0
theorem nmJxa1e45 : ∀ a, a < 0 → ∀ b, b < 0 → a ≠ b → (TJxa1e45 a).2.1 ≠ (TJxa1e45 b).2.1 := by decide +kernel
theorem tyJxa1e45_ok : ∀ k, k < 0 → parseFieldDescriptor (TJxa1e45 k).2.2.1 = some (tyJxa1e45 k) := by decide +kernel
abbrev cJxa1e45_init_da8c8 : ByteArray := prog_33_method_1_code
def yJxa1e45_init_da8c8 : MethodName := ⟨RJxa1e45, "<init>", "()V"⟩
def RJxc12de : String := "java/util/AbstractList"
def TJxc12de : u_T := fun k => match k with
  | _ => ("", "", "", false)
def tyJxc12de : Nat → FieldType := fun k => match k with
  | _ => .int
abbrev wsJxc12de0 : List Cond := u_ws RJxc12de TJxc12de 0
theorem nmJxc12de : ∀ a, a < 0 → ∀ b, b < 0 → a ≠ b → (TJxc12de a).2.1 ≠ (TJxc12de b).2.1 := by decide +kernel
theorem tyJxc12de_ok : ∀ k, k < 0 → parseFieldDescriptor (TJxc12de k).2.2.1 = some (tyJxc12de k) := by decide +kernel
abbrev cJxc12de_init_da8c8 : ByteArray := prog_34_method_1_code
def yJxc12de_init_da8c8 : MethodName := ⟨RJxc12de, "<init>", "()V"⟩
def RJx4a65c : String := "java/util/ArrayList"
def TJx4a65c : u_T := fun k => match k with
  | 0 => ("java/util/AbstractList", "modCount", "I", false)
  | 1 => ("java/util/ArrayList", "elementData", "[Ljava/lang/Object;", false)
  | _ => ("java/util/ArrayList", "size", "I", false)
def tyJx4a65c : Nat → FieldType := fun k => match k with
  | 0 => .int
  | 1 => .array (.object "java/lang/Object")
  | _ => .int
abbrev wsJx4a65c0 : List Cond := u_ws RJx4a65c TJx4a65c 3
theorem nmJx4a65c : ∀ a, a < 3 → ∀ b, b < 3 → a ≠ b → (TJx4a65c a).2.1 ≠ (TJx4a65c b).2.1 := by decide +kernel
theorem tyJx4a65c_ok : ∀ k, k < 3 → parseFieldDescriptor (TJx4a65c k).2.2.1 = some (tyJx4a65c k) := by decide +kernel
abbrev cJx4a65c_init_da8c8 : ByteArray := prog_35_method_2_code
def yJx4a65c_init_da8c8 : MethodName := ⟨RJx4a65c, "<init>", "()V"⟩
abbrev cJx4a65c_grow_92f84 : ByteArray := prog_35_method_6_code
def yJx4a65c_grow_92f84 : MethodName := ⟨RJx4a65c, "grow", "(I)[Ljava/lang/Object;"⟩
abbrev cJx4a65c_grow_d5877 : ByteArray := prog_35_method_7_code
def yJx4a65c_grow_d5877 : MethodName := ⟨RJx4a65c, "grow", "()[Ljava/lang/Object;"⟩
abbrev cJx4a65c_size_8abf5 : ByteArray := prog_35_method_8_code
def yJx4a65c_size_8abf5 : MethodName := ⟨RJx4a65c, "size", "()I"⟩
abbrev cJx4a65c_elementData_915e3 : ByteArray := prog_35_method_18_code
def yJx4a65c_elementData_915e3 : MethodName := ⟨RJx4a65c, "elementData", "(I)Ljava/lang/Object;"⟩
abbrev cJx4a65c_get_915e3 : ByteArray := prog_35_method_20_code
def yJx4a65c_get_915e3 : MethodName := ⟨RJx4a65c, "get", "(I)Ljava/lang/Object;"⟩
abbrev cJx4a65c_add_72be8 : ByteArray := prog_35_method_24_code
def yJx4a65c_add_72be8 : MethodName := ⟨RJx4a65c, "add", "(Ljava/lang/Object;[Ljava/lang/Object;I)V"⟩
abbrev cJx4a65c_add_9ea2d : ByteArray := prog_35_method_25_code
def yJx4a65c_add_9ea2d : MethodName := ⟨RJx4a65c, "add", "(Ljava/lang/Object;)Z"⟩
def RJ7 : String := "java/util/Arrays"
def TJ7 : u_T := fun k => match k with
  | _ => ("", "", "", false)
def tyJ7 : Nat → FieldType := fun k => match k with
  | _ => .int
abbrev wsJ70 : List Cond := u_ws RJ7 TJ7 0
theorem nmJ7 : ∀ a, a < 0 → ∀ b, b < 0 → a ≠ b → (TJ7 a).2.1 ≠ (TJ7 b).2.1 := by decide +kernel
theorem tyJ7_ok : ∀ k, k < 0 → parseFieldDescriptor (TJ7 k).2.2.1 = some (tyJ7 k) := by decide +kernel
abbrev cJ7_fill_53178 : ByteArray := prog_36_method_103_code
def yJ7_fill_53178 : MethodName := ⟨RJ7, "fill", "([II)V"⟩
abbrev cJ7_copyOf_1904c : ByteArray := prog_36_method_119_code
def yJ7_copyOf_1904c : MethodName := ⟨RJ7, "copyOf", "([Ljava/lang/Object;I)[Ljava/lang/Object;"⟩
abbrev cJ7_copyOf_6403c : ByteArray := prog_36_method_120_code
def yJ7_copyOf_6403c : MethodName := ⟨RJ7, "copyOf", "([Ljava/lang/Object;ILjava/lang/Class;)[Ljava/lang/Object;"⟩
abbrev cJ7_copyOf_9075b : ByteArray := prog_36_method_121_code
def yJ7_copyOf_9075b : MethodName := ⟨RJ7, "copyOf", "([BI)[B"⟩
abbrev cJ7_copyOf_59c91 : ByteArray := prog_36_method_123_code
def yJ7_copyOf_59c91 : MethodName := ⟨RJ7, "copyOf", "([II)[I"⟩
abbrev cJ7_copyOf_c38d5 : ByteArray := prog_36_method_124_code
def yJ7_copyOf_c38d5 : MethodName := ⟨RJ7, "copyOf", "([JI)[J"⟩
abbrev cJ7_checkLength_df160 : ByteArray := prog_36_method_131_code
def yJ7_checkLength_df160 : MethodName := ⟨RJ7, "checkLength", "(II)V"⟩
abbrev cJ7_copyOfRange_39247 : ByteArray := prog_36_method_132_code
def yJ7_copyOfRange_39247 : MethodName := ⟨RJ7, "copyOfRange", "([BII)[B"⟩
abbrev cJ7_copyOfRangeByte_39247 : ByteArray := prog_36_method_133_code
def yJ7_copyOfRangeByte_39247 : MethodName := ⟨RJ7, "copyOfRangeByte", "([BII)[B"⟩
abbrev cJ7_copyOfRange_23910 : ByteArray := prog_36_method_138_code
def yJ7_copyOfRange_23910 : MethodName := ⟨RJ7, "copyOfRange", "([JII)[J"⟩
abbrev cJ7_copyOfRangeLong_23910 : ByteArray := prog_36_method_139_code
def yJ7_copyOfRangeLong_23910 : MethodName := ⟨RJ7, "copyOfRangeLong", "([JII)[J"⟩
def RJx5ef63 : String := "java/util/Collection"
def TJx5ef63 : u_T := fun k => match k with
  | _ => ("", "", "", false)
def tyJx5ef63 : Nat → FieldType := fun k => match k with
  | _ => .int
abbrev wsJx5ef630 : List Cond := u_ws RJx5ef63 TJx5ef63 0
theorem nmJx5ef63 : ∀ a, a < 0 → ∀ b, b < 0 → a ≠ b → (TJx5ef63 a).2.1 ≠ (TJx5ef63 b).2.1 := by decide +kernel
theorem tyJx5ef63_ok : ∀ k, k < 0 → parseFieldDescriptor (TJx5ef63 k).2.2.1 = some (tyJx5ef63 k) := by decide +kernel
def RJxbd725 : String := "java/util/List"
def TJxbd725 : u_T := fun k => match k with
  | _ => ("", "", "", false)
def tyJxbd725 : Nat → FieldType := fun k => match k with
  | _ => .int
abbrev wsJxbd7250 : List Cond := u_ws RJxbd725 TJxbd725 0
theorem nmJxbd725 : ∀ a, a < 0 → ∀ b, b < 0 → a ≠ b → (TJxbd725 a).2.1 ≠ (TJxbd725 b).2.1 := by decide +kernel
theorem tyJxbd725_ok : ∀ k, k < 0 → parseFieldDescriptor (TJxbd725 k).2.2.1 = some (tyJxbd725 k) := by decide +kernel
def RJ15 : String := "java/util/Objects"
def TJ15 : u_T := fun k => match k with
  | _ => ("", "", "", false)
def tyJ15 : Nat → FieldType := fun k => match k with
  | _ => .int
abbrev wsJ150 : List Cond := u_ws RJ15 TJ15 0
theorem nmJ15 : ∀ a, a < 0 → ∀ b, b < 0 → a ≠ b → (TJ15 a).2.1 ≠ (TJ15 b).2.1 := by decide +kernel
theorem tyJ15_ok : ∀ k, k < 0 → parseFieldDescriptor (TJ15 k).2.2.1 = some (tyJ15 k) := by decide +kernel
abbrev cJ15_checkIndex_7cf53 : ByteArray := prog_40_method_17_code
def yJ15_checkIndex_7cf53 : MethodName := ⟨RJ15, "checkIndex", "(II)I"⟩
def RJxf0a74 : String := "java/util/RandomAccess"
def TJxf0a74 : u_T := fun k => match k with
  | _ => ("", "", "", false)
def tyJxf0a74 : Nat → FieldType := fun k => match k with
  | _ => .int
abbrev wsJxf0a740 : List Cond := u_ws RJxf0a74 TJxf0a74 0
theorem nmJxf0a74 : ∀ a, a < 0 → ∀ b, b < 0 → a ≠ b → (TJxf0a74 a).2.1 ≠ (TJxf0a74 b).2.1 := by decide +kernel
theorem tyJxf0a74_ok : ∀ k, k < 0 → parseFieldDescriptor (TJxf0a74 k).2.2.1 = some (tyJxf0a74 k) := by decide +kernel
def RJxa66e6 : String := "java/util/SequencedCollection"
def TJxa66e6 : u_T := fun k => match k with
  | _ => ("", "", "", false)
def tyJxa66e6 : Nat → FieldType := fun k => match k with
  | _ => .int
abbrev wsJxa66e60 : List Cond := u_ws RJxa66e6 TJxa66e6 0
theorem nmJxa66e6 : ∀ a, a < 0 → ∀ b, b < 0 → a ≠ b → (TJxa66e6 a).2.1 ≠ (TJxa66e6 b).2.1 := by decide +kernel
theorem tyJxa66e6_ok : ∀ k, k < 0 → parseFieldDescriptor (TJxa66e6 k).2.2.1 = some (tyJxa66e6 k) := by decide +kernel
def RJ8 : String := "jdk/internal/util/ArraysSupport"
def TJ8 : u_T := fun k => match k with
  | _ => ("", "", "", false)
def tyJ8 : Nat → FieldType := fun k => match k with
  | _ => .int
abbrev wsJ80 : List Cond := u_ws RJ8 TJ8 0
theorem nmJ8 : ∀ a, a < 0 → ∀ b, b < 0 → a ≠ b → (TJ8 a).2.1 ≠ (TJ8 b).2.1 := by decide +kernel
theorem tyJ8_ok : ∀ k, k < 0 → parseFieldDescriptor (TJ8 k).2.2.1 = some (tyJ8 k) := by decide +kernel
abbrev cJ8_newLength_cabcc : ByteArray := prog_43_method_27_code
def yJ8_newLength_cabcc : MethodName := ⟨RJ8, "newLength", "(III)I"⟩
abbrev cJ8_hugeLength_7cf53 : ByteArray := prog_43_method_28_code
def yJ8_hugeLength_7cf53 : MethodName := ⟨RJ8, "hugeLength", "(II)I"⟩
def RJ3 : String := "jdk/internal/util/Preconditions"
def TJ3 : u_T := fun k => match k with
  | _ => ("", "", "", false)
def tyJ3 : Nat → FieldType := fun k => match k with
  | _ => .int
abbrev wsJ30 : List Cond := u_ws RJ3 TJ3 0
theorem nmJ3 : ∀ a, a < 0 → ∀ b, b < 0 → a ≠ b → (TJ3 a).2.1 ≠ (TJ3 b).2.1 := by decide +kernel
theorem tyJ3_ok : ∀ k, k < 0 → parseFieldDescriptor (TJ3 k).2.2.1 = some (tyJ3 k) := by decide +kernel
abbrev cJ3_checkIndex_8e157 : ByteArray := prog_44_method_11_code
def yJ3_checkIndex_8e157 : MethodName := ⟨RJ3, "checkIndex", "(IILjava/util/function/BiFunction;)I"⟩
abbrev cJ3_checkFromToIndex_8c36e : ByteArray := prog_44_method_12_code
def yJ3_checkFromToIndex_8c36e : MethodName := ⟨RJ3, "checkFromToIndex", "(IIILjava/util/function/BiFunction;)I"⟩
abbrev cJ3_checkFromIndexSize_8c36e : ByteArray := prog_44_method_13_code
def yJ3_checkFromIndexSize_8c36e : MethodName := ⟨RJ3, "checkFromIndexSize", "(IIILjava/util/function/BiFunction;)I"⟩
def RL : String := "ComplaintDeskLaw"
abbrev cL_cause : ByteArray := method_3_code
def yL_cause : MethodName := ⟨RL, "cause", "(LComplaintDesk;IIIZ[J)I"⟩
abbrev cL_pattern : ByteArray := method_4_code
def yL_pattern : MethodName := ⟨RL, "pattern", "(LComplaintDesk;I[J)I"⟩
abbrev cL_letter : ByteArray := method_5_code
def yL_letter : MethodName := ⟨RL, "letter", "(LComplaintDesk;I[J)I"⟩
abbrev cL_hours : ByteArray := method_6_code
def yL_hours : MethodName := ⟨RL, "hours", "(LComplaintDesk;II)I"⟩
abbrev cL_days : ByteArray := method_7_code
def yL_days : MethodName := ⟨RL, "days", "(LComplaintDesk;I[J)I"⟩
abbrev cL_answer : ByteArray := method_8_code
def yL_answer : MethodName := ⟨RL, "answer", "(LComplaintDesk;II[J)I"⟩
abbrev cL_point : ByteArray := method_9_code
def yL_point : MethodName := ⟨RL, "point", "(LComplaintDesk;III[J)I"⟩
abbrev cL_look : ByteArray := method_10_code
def yL_look : MethodName := ⟨RL, "look", "(LComplaintDesk;II[J)I"⟩
abbrev cL_late : ByteArray := method_11_code
def yL_late : MethodName := ⟨RL, "late", "(LComplaintDesk;I[J)I"⟩
abbrev cL_waits : ByteArray := method_12_code
def yL_waits : MethodName := ⟨RL, "waits", "(LComplaintDesk;I[J)I"⟩
abbrev cL_template : ByteArray := method_13_code
def yL_template : MethodName := ⟨RL, "template", "(LComplaintDesk;I[J)I"⟩
abbrev cL_counts : ByteArray := method_14_code
def yL_counts : MethodName := ⟨RL, "counts", "(LComplaintDesk;II[J)I"⟩
abbrev cL_wave : ByteArray := method_15_code
def yL_wave : MethodName := ⟨RL, "wave", "(LComplaintDesk;I[J)I"⟩
abbrev cL_law : ByteArray := code
def yL_law : MethodName := ⟨RL, "law", "([I)Z"⟩
abbrev vwCl : List vw_C := [(RX0, TX0, 6), (RX1, TX1, 3), (RX2, TX2, 3), (RX3, TX3, 4), (RX4, TX4, 5), (RX5, TX5, 5), (RX6, TX6, 11), (RX7, TX7, 35), (RJx4a65c, TJx4a65c, 3)]
end
section
theorem dX0_init_0 : decode cX0_init 0 = .ok (.aload_n 0, 1) := by decide +kernel
theorem dX0_init_1 : decode cX0_init 1 = .ok (.invokespecial 1, 3) := by decide +kernel
theorem dX0_init_4 : decode cX0_init 4 = .ok (.aload_n 0, 1) := by decide +kernel
theorem dX0_init_5 : decode cX0_init 5 = .ok (.iload_n 1, 1) := by decide +kernel
theorem dX0_init_6 : decode cX0_init 6 = .ok (.putfield 7, 3) := by decide +kernel
theorem dX0_init_9 : decode cX0_init 9 = .ok (.aload_n 0, 1) := by decide +kernel
theorem dX0_init_10 : decode cX0_init 10 = .ok (.aload_n 2, 1) := by decide +kernel
theorem dX0_init_11 : decode cX0_init 11 = .ok (.putfield 13, 3) := by decide +kernel
theorem dX0_init_14 : decode cX0_init 14 = .ok (.aload_n 0, 1) := by decide +kernel
theorem dX0_init_15 : decode cX0_init 15 = .ok (.iload_n 3, 1) := by decide +kernel
theorem dX0_init_16 : decode cX0_init 16 = .ok (.putfield 17, 3) := by decide +kernel
theorem dX0_init_19 : decode cX0_init 19 = .ok (.aload_n 0, 1) := by decide +kernel
theorem dX0_init_20 : decode cX0_init 20 = .ok (.iload 4, 2) := by decide +kernel
theorem dX0_init_22 : decode cX0_init 22 = .ok (.putfield 20, 3) := by decide +kernel
theorem dX0_init_25 : decode cX0_init 25 = .ok (.aload_n 0, 1) := by decide +kernel
theorem dX0_init_26 : decode cX0_init 26 = .ok (.iload 5, 2) := by decide +kernel
theorem dX0_init_28 : decode cX0_init 28 = .ok (.putfield 23, 3) := by decide +kernel
theorem dX0_init_31 : decode cX0_init 31 = .ok (.aload_n 0, 1) := by decide +kernel
theorem dX0_init_32 : decode cX0_init 32 = .ok (.aload 6, 2) := by decide +kernel
theorem dX0_init_34 : decode cX0_init 34 = .ok (.putfield 27, 3) := by decide +kernel
theorem dX0_init_37 : decode cX0_init 37 = .ok (.return_, 1) := by decide +kernel
theorem dX0_isUnder_0 : decode cX0_isUnder 0 = .ok (.aload_n 0, 1) := by decide +kernel
theorem dX0_isUnder_1 : decode cX0_isUnder 1 = .ok (.astore_n 2, 1) := by decide +kernel
theorem dX0_isUnder_2 : decode cX0_isUnder 2 = .ok (.aload_n 2, 1) := by decide +kernel
theorem dX0_isUnder_3 : decode cX0_isUnder 3 = .ok (.ifnull 18, 3) := by decide +kernel
theorem dX0_isUnder_6 : decode cX0_isUnder 6 = .ok (.aload_n 2, 1) := by decide +kernel
theorem dX0_isUnder_7 : decode cX0_isUnder 7 = .ok (.aload_n 1, 1) := by decide +kernel
theorem dX0_isUnder_8 : decode cX0_isUnder 8 = .ok (.if_acmp .ne 5, 3) := by decide +kernel
theorem dX0_isUnder_11 : decode cX0_isUnder 11 = .ok (.iconst 1, 1) := by decide +kernel
theorem dX0_isUnder_12 : decode cX0_isUnder 12 = .ok (.ireturn, 1) := by decide +kernel
theorem dX0_isUnder_13 : decode cX0_isUnder 13 = .ok (.aload_n 2, 1) := by decide +kernel
theorem dX0_isUnder_14 : decode cX0_isUnder 14 = .ok (.getfield 13, 3) := by decide +kernel
theorem dX0_isUnder_17 : decode cX0_isUnder 17 = .ok (.astore_n 2, 1) := by decide +kernel
theorem dX0_isUnder_18 : decode cX0_isUnder 18 = .ok (.goto (-16), 3) := by decide +kernel
theorem dX0_isUnder_21 : decode cX0_isUnder 21 = .ok (.iconst 0, 1) := by decide +kernel
theorem dX0_isUnder_22 : decode cX0_isUnder 22 = .ok (.ireturn, 1) := by decide +kernel
theorem dX1_init_0 : decode cX1_init 0 = .ok (.aload_n 0, 1) := by decide +kernel
theorem dX1_init_1 : decode cX1_init 1 = .ok (.invokespecial 3, 3) := by decide +kernel
theorem dX1_init_4 : decode cX1_init 4 = .ok (.aload_n 0, 1) := by decide +kernel
theorem dX1_init_5 : decode cX1_init 5 = .ok (.new 9, 3) := by decide +kernel
theorem dX1_init_8 : decode cX1_init 8 = .ok (.dup, 1) := by decide +kernel
theorem dX1_init_9 : decode cX1_init 9 = .ok (.invokespecial 11, 3) := by decide +kernel
theorem dX1_init_12 : decode cX1_init 12 = .ok (.putfield 12, 3) := by decide +kernel
theorem dX1_init_15 : decode cX1_init 15 = .ok (.aload_n 0, 1) := by decide +kernel
theorem dX1_init_16 : decode cX1_init 16 = .ok (.iload_n 1, 1) := by decide +kernel
theorem dX1_init_17 : decode cX1_init 17 = .ok (.putfield 18, 3) := by decide +kernel
theorem dX1_init_20 : decode cX1_init 20 = .ok (.aload_n 0, 1) := by decide +kernel
theorem dX1_init_21 : decode cX1_init 21 = .ok (.iload_n 2, 1) := by decide +kernel
theorem dX1_init_22 : decode cX1_init 22 = .ok (.putfield 22, 3) := by decide +kernel
theorem dX1_init_25 : decode cX1_init 25 = .ok (.return_, 1) := by decide +kernel
theorem dX1_firstWrong_0 : decode cX1_firstWrong 0 = .ok (.iconst 1, 1) := by decide +kernel
theorem dX1_firstWrong_1 : decode cX1_firstWrong 1 = .ok (.istore_n 2, 1) := by decide +kernel
theorem dX1_firstWrong_2 : decode cX1_firstWrong 2 = .ok (.aload_n 1, 1) := by decide +kernel
theorem dX1_firstWrong_3 : decode cX1_firstWrong 3 = .ok (.invokevirtual 25, 3) := by decide +kernel
theorem dX1_firstWrong_6 : decode cX1_firstWrong 6 = .ok (.iconst 0, 1) := by decide +kernel
theorem dX1_firstWrong_7 : decode cX1_firstWrong 7 = .ok (.istore_n 3, 1) := by decide +kernel
theorem dX1_firstWrong_8 : decode cX1_firstWrong 8 = .ok (.iload_n 3, 1) := by decide +kernel
theorem dX1_firstWrong_9 : decode cX1_firstWrong 9 = .ok (.sipush 400, 3) := by decide +kernel
theorem dX1_firstWrong_12 : decode cX1_firstWrong 12 = .ok (.if_icmp .ge 94, 3) := by decide +kernel
theorem dX1_firstWrong_15 : decode cX1_firstWrong 15 = .ok (.aload_n 0, 1) := by decide +kernel
theorem dX1_firstWrong_16 : decode cX1_firstWrong 16 = .ok (.invokevirtual 30, 3) := by decide +kernel
theorem dX1_firstWrong_19 : decode cX1_firstWrong 19 = .ok (.ifCond .eq 87, 3) := by decide +kernel
theorem dX1_firstWrong_22 : decode cX1_firstWrong 22 = .ok (.aload_n 0, 1) := by decide +kernel
theorem dX1_firstWrong_23 : decode cX1_firstWrong 23 = .ok (.invokevirtual 36, 3) := by decide +kernel
theorem dX1_firstWrong_26 : decode cX1_firstWrong 26 = .ok (.ifCond .eq 53, 3) := by decide +kernel
theorem dX1_firstWrong_29 : decode cX1_firstWrong 29 = .ok (.iload_n 2, 1) := by decide +kernel
theorem dX1_firstWrong_30 : decode cX1_firstWrong 30 = .ok (.ifCond .eq 23, 3) := by decide +kernel
theorem dX1_firstWrong_33 : decode cX1_firstWrong 33 = .ok (.aload_n 1, 1) := by decide +kernel
theorem dX1_firstWrong_34 : decode cX1_firstWrong 34 = .ok (.getfield 39, 3) := by decide +kernel
theorem dX1_firstWrong_37 : decode cX1_firstWrong 37 = .ok (.bipush 6, 2) := by decide +kernel
theorem dX1_firstWrong_39 : decode cX1_firstWrong 39 = .ok (.if_icmp .lt 8, 3) := by decide +kernel
theorem dX1_firstWrong_42 : decode cX1_firstWrong 42 = .ok (.aload_n 0, 1) := by decide +kernel
theorem dX1_firstWrong_43 : decode cX1_firstWrong 43 = .ok (.getfield 42, 3) := by decide +kernel
theorem dX1_firstWrong_46 : decode cX1_firstWrong 46 = .ok (.ireturn, 1) := by decide +kernel
theorem dX1_firstWrong_47 : decode cX1_firstWrong 47 = .ok (.aload_n 1, 1) := by decide +kernel
theorem dX1_firstWrong_48 : decode cX1_firstWrong 48 = .ok (.invokevirtual 45, 3) := by decide +kernel
theorem dX1_firstWrong_51 : decode cX1_firstWrong 51 = .ok (.iconst 0, 1) := by decide +kernel
theorem dX1_firstWrong_52 : decode cX1_firstWrong 52 = .ok (.istore_n 2, 1) := by decide +kernel
theorem dX1_firstWrong_53 : decode cX1_firstWrong 53 = .ok (.aload_n 1, 1) := by decide +kernel
theorem dX1_firstWrong_54 : decode cX1_firstWrong 54 = .ok (.getfield 48, 3) := by decide +kernel
theorem dX1_firstWrong_57 : decode cX1_firstWrong 57 = .ok (.bipush 60, 2) := by decide +kernel
theorem dX1_firstWrong_59 : decode cX1_firstWrong 59 = .ok (.if_icmp .lt 8, 3) := by decide +kernel
theorem dX1_firstWrong_62 : decode cX1_firstWrong 62 = .ok (.aload_n 0, 1) := by decide +kernel
theorem dX1_firstWrong_63 : decode cX1_firstWrong 63 = .ok (.getfield 42, 3) := by decide +kernel
theorem dX1_firstWrong_66 : decode cX1_firstWrong 66 = .ok (.ireturn, 1) := by decide +kernel
theorem dX1_firstWrong_67 : decode cX1_firstWrong 67 = .ok (.aload_n 1, 1) := by decide +kernel
theorem dX1_firstWrong_68 : decode cX1_firstWrong 68 = .ok (.aload_n 0, 1) := by decide +kernel
theorem dX1_firstWrong_69 : decode cX1_firstWrong 69 = .ok (.invokevirtual 51, 3) := by decide +kernel
theorem dX1_firstWrong_72 : decode cX1_firstWrong 72 = .ok (.iconst 0, 1) := by decide +kernel
theorem dX1_firstWrong_73 : decode cX1_firstWrong 73 = .ok (.invokevirtual 55, 3) := by decide +kernel
theorem dX1_firstWrong_76 : decode cX1_firstWrong 76 = .ok (.goto 24, 3) := by decide +kernel
theorem dX1_firstWrong_79 : decode cX1_firstWrong 79 = .ok (.aload_n 0, 1) := by decide +kernel
theorem dX1_firstWrong_80 : decode cX1_firstWrong 80 = .ok (.invokevirtual 59, 3) := by decide +kernel
theorem dX1_firstWrong_83 : decode cX1_firstWrong 83 = .ok (.ifCond .eq 12, 3) := by decide +kernel
theorem dX1_firstWrong_86 : decode cX1_firstWrong 86 = .ok (.iload_n 2, 1) := by decide +kernel
theorem dX1_firstWrong_87 : decode cX1_firstWrong 87 = .ok (.ifCond .ne 8, 3) := by decide +kernel
theorem dX1_firstWrong_90 : decode cX1_firstWrong 90 = .ok (.iconst 1, 1) := by decide +kernel
theorem dX1_firstWrong_91 : decode cX1_firstWrong 91 = .ok (.istore_n 2, 1) := by decide +kernel
theorem dX1_firstWrong_92 : decode cX1_firstWrong 92 = .ok (.goto 8, 3) := by decide +kernel
theorem dX1_firstWrong_95 : decode cX1_firstWrong 95 = .ok (.aload_n 0, 1) := by decide +kernel
theorem dX1_firstWrong_96 : decode cX1_firstWrong 96 = .ok (.getfield 42, 3) := by decide +kernel
theorem dX1_firstWrong_99 : decode cX1_firstWrong 99 = .ok (.ireturn, 1) := by decide +kernel
theorem dX1_firstWrong_100 : decode cX1_firstWrong 100 = .ok (.iinc 3 1, 3) := by decide +kernel
theorem dX1_firstWrong_103 : decode cX1_firstWrong 103 = .ok (.goto (-95), 3) := by decide +kernel
theorem dX1_firstWrong_106 : decode cX1_firstWrong 106 = .ok (.aload_n 1, 1) := by decide +kernel
theorem dX1_firstWrong_107 : decode cX1_firstWrong 107 = .ok (.getfield 48, 3) := by decide +kernel
theorem dX1_firstWrong_110 : decode cX1_firstWrong 110 = .ok (.ifCond .ne 10, 3) := by decide +kernel
theorem dX1_firstWrong_113 : decode cX1_firstWrong 113 = .ok (.aload_n 0, 1) := by decide +kernel
theorem dX1_firstWrong_114 : decode cX1_firstWrong 114 = .ok (.getfield 62, 3) := by decide +kernel
theorem dX1_firstWrong_117 : decode cX1_firstWrong 117 = .ok (.goto 4, 3) := by decide +kernel
theorem dX1_firstWrong_120 : decode cX1_firstWrong 120 = .ok (.iconst (-1), 1) := by decide +kernel
theorem dX1_firstWrong_121 : decode cX1_firstWrong 121 = .ok (.ireturn, 1) := by decide +kernel
theorem dX1_pointAt_0 : decode cX1_pointAt 0 = .ok (.iload_n 1, 1) := by decide +kernel
theorem dX1_pointAt_1 : decode cX1_pointAt 1 = .ok (.ifCond .lt 14, 3) := by decide +kernel
theorem dX1_pointAt_4 : decode cX1_pointAt 4 = .ok (.iload_n 1, 1) := by decide +kernel
theorem dX1_pointAt_5 : decode cX1_pointAt 5 = .ok (.aload_n 0, 1) := by decide +kernel
theorem dX1_pointAt_6 : decode cX1_pointAt 6 = .ok (.getfield 12, 3) := by decide +kernel
theorem dX1_pointAt_9 : decode cX1_pointAt 9 = .ok (.invokevirtual 65, 3) := by decide +kernel
theorem dX1_pointAt_12 : decode cX1_pointAt 12 = .ok (.if_icmp .lt 13, 3) := by decide +kernel
theorem dX1_pointAt_15 : decode cX1_pointAt 15 = .ok (.new 68, 3) := by decide +kernel
theorem dX1_pointAt_18 : decode cX1_pointAt 18 = .ok (.dup, 1) := by decide +kernel
theorem dX1_pointAt_19 : decode cX1_pointAt 19 = .ok (.ldc 70, 2) := by decide +kernel
theorem dX1_pointAt_21 : decode cX1_pointAt 21 = .ok (.invokespecial 72, 3) := by decide +kernel
theorem dX1_pointAt_24 : decode cX1_pointAt 24 = .ok (.athrow, 1) := by decide +kernel
theorem dX1_pointAt_25 : decode cX1_pointAt 25 = .ok (.aload_n 0, 1) := by decide +kernel
theorem dX1_pointAt_26 : decode cX1_pointAt 26 = .ok (.getfield 12, 3) := by decide +kernel
theorem dX1_pointAt_29 : decode cX1_pointAt 29 = .ok (.iload_n 1, 1) := by decide +kernel
theorem dX1_pointAt_30 : decode cX1_pointAt 30 = .ok (.invokevirtual 75, 3) := by decide +kernel
theorem dX1_pointAt_33 : decode cX1_pointAt 33 = .ok (.checkcast 79, 3) := by decide +kernel
theorem dX1_pointAt_36 : decode cX1_pointAt 36 = .ok (.areturn, 1) := by decide +kernel
theorem dX1_isClosed_0 : decode cX1_isClosed 0 = .ok (.iconst 0, 1) := by decide +kernel
theorem dX1_isClosed_1 : decode cX1_isClosed 1 = .ok (.istore_n 1, 1) := by decide +kernel
theorem dX1_isClosed_2 : decode cX1_isClosed 2 = .ok (.iload_n 1, 1) := by decide +kernel
theorem dX1_isClosed_3 : decode cX1_isClosed 3 = .ok (.aload_n 0, 1) := by decide +kernel
theorem dX1_isClosed_4 : decode cX1_isClosed 4 = .ok (.getfield 12, 3) := by decide +kernel
theorem dX1_isClosed_7 : decode cX1_isClosed 7 = .ok (.invokevirtual 65, 3) := by decide +kernel
theorem dX1_isClosed_10 : decode cX1_isClosed 10 = .ok (.if_icmp .ge 28, 3) := by decide +kernel
theorem dX1_isClosed_13 : decode cX1_isClosed 13 = .ok (.aload_n 0, 1) := by decide +kernel
theorem dX1_isClosed_14 : decode cX1_isClosed 14 = .ok (.getfield 12, 3) := by decide +kernel
theorem dX1_isClosed_17 : decode cX1_isClosed 17 = .ok (.iload_n 1, 1) := by decide +kernel
theorem dX1_isClosed_18 : decode cX1_isClosed 18 = .ok (.invokevirtual 75, 3) := by decide +kernel
theorem dX1_isClosed_21 : decode cX1_isClosed 21 = .ok (.checkcast 79, 3) := by decide +kernel
theorem dX1_isClosed_24 : decode cX1_isClosed 24 = .ok (.invokevirtual 81, 3) := by decide +kernel
theorem dX1_isClosed_27 : decode cX1_isClosed 27 = .ok (.ifCond .ne 5, 3) := by decide +kernel
theorem dX1_isClosed_30 : decode cX1_isClosed 30 = .ok (.iconst 0, 1) := by decide +kernel
theorem dX1_isClosed_31 : decode cX1_isClosed 31 = .ok (.ireturn, 1) := by decide +kernel
theorem dX1_isClosed_32 : decode cX1_isClosed 32 = .ok (.iinc 1 1, 3) := by decide +kernel
theorem dX1_isClosed_35 : decode cX1_isClosed 35 = .ok (.goto (-33), 3) := by decide +kernel
theorem dX1_isClosed_38 : decode cX1_isClosed 38 = .ok (.iconst 1, 1) := by decide +kernel
theorem dX1_isClosed_39 : decode cX1_isClosed 39 = .ok (.ireturn, 1) := by decide +kernel
theorem dX1_causeBits_0 : decode cX1_causeBits 0 = .ok (.iconst 0, 1) := by decide +kernel
theorem dX1_causeBits_1 : decode cX1_causeBits 1 = .ok (.istore_n 1, 1) := by decide +kernel
theorem dX1_causeBits_2 : decode cX1_causeBits 2 = .ok (.iconst 0, 1) := by decide +kernel
theorem dX1_causeBits_3 : decode cX1_causeBits 3 = .ok (.istore_n 2, 1) := by decide +kernel
theorem dX1_causeBits_4 : decode cX1_causeBits 4 = .ok (.iload_n 2, 1) := by decide +kernel
theorem dX1_causeBits_5 : decode cX1_causeBits 5 = .ok (.aload_n 0, 1) := by decide +kernel
theorem dX1_causeBits_6 : decode cX1_causeBits 6 = .ok (.getfield 12, 3) := by decide +kernel
theorem dX1_causeBits_9 : decode cX1_causeBits 9 = .ok (.invokevirtual 65, 3) := by decide +kernel
theorem dX1_causeBits_12 : decode cX1_causeBits 12 = .ok (.if_icmp .ge 39, 3) := by decide +kernel
theorem dX1_causeBits_15 : decode cX1_causeBits 15 = .ok (.aload_n 0, 1) := by decide +kernel
theorem dX1_causeBits_16 : decode cX1_causeBits 16 = .ok (.getfield 12, 3) := by decide +kernel
theorem dX1_causeBits_19 : decode cX1_causeBits 19 = .ok (.iload_n 2, 1) := by decide +kernel
theorem dX1_causeBits_20 : decode cX1_causeBits 20 = .ok (.invokevirtual 75, 3) := by decide +kernel
theorem dX1_causeBits_23 : decode cX1_causeBits 23 = .ok (.checkcast 79, 3) := by decide +kernel
theorem dX1_causeBits_26 : decode cX1_causeBits 26 = .ok (.getfield 84, 3) := by decide +kernel
theorem dX1_causeBits_29 : decode cX1_causeBits 29 = .ok (.astore_n 3, 1) := by decide +kernel
theorem dX1_causeBits_30 : decode cX1_causeBits 30 = .ok (.aload_n 3, 1) := by decide +kernel
theorem dX1_causeBits_31 : decode cX1_causeBits 31 = .ok (.ifnonnull 5, 3) := by decide +kernel
theorem dX1_causeBits_34 : decode cX1_causeBits 34 = .ok (.iconst (-1), 1) := by decide +kernel
theorem dX1_causeBits_35 : decode cX1_causeBits 35 = .ok (.ireturn, 1) := by decide +kernel
theorem dX1_causeBits_36 : decode cX1_causeBits 36 = .ok (.iload_n 1, 1) := by decide +kernel
theorem dX1_causeBits_37 : decode cX1_causeBits 37 = .ok (.iconst 1, 1) := by decide +kernel
theorem dX1_causeBits_38 : decode cX1_causeBits 38 = .ok (.aload_n 3, 1) := by decide +kernel
theorem dX1_causeBits_39 : decode cX1_causeBits 39 = .ok (.getfield 88, 3) := by decide +kernel
theorem dX1_causeBits_42 : decode cX1_causeBits 42 = .ok (.ishl, 1) := by decide +kernel
theorem dX1_causeBits_43 : decode cX1_causeBits 43 = .ok (.ior, 1) := by decide +kernel
theorem dX1_causeBits_44 : decode cX1_causeBits 44 = .ok (.istore_n 1, 1) := by decide +kernel
theorem dX1_causeBits_45 : decode cX1_causeBits 45 = .ok (.iinc 2 1, 3) := by decide +kernel
theorem dX1_causeBits_48 : decode cX1_causeBits 48 = .ok (.goto (-44), 3) := by decide +kernel
theorem dX1_causeBits_51 : decode cX1_causeBits 51 = .ok (.iload_n 1, 1) := by decide +kernel
theorem dX1_causeBits_52 : decode cX1_causeBits 52 = .ok (.ireturn, 1) := by decide +kernel
theorem dX1_pointsUnder_0 : decode cX1_pointsUnder 0 = .ok (.iconst 0, 1) := by decide +kernel
theorem dX1_pointsUnder_1 : decode cX1_pointsUnder 1 = .ok (.istore_n 2, 1) := by decide +kernel
theorem dX1_pointsUnder_2 : decode cX1_pointsUnder 2 = .ok (.iconst 0, 1) := by decide +kernel
theorem dX1_pointsUnder_3 : decode cX1_pointsUnder 3 = .ok (.istore_n 3, 1) := by decide +kernel
theorem dX1_pointsUnder_4 : decode cX1_pointsUnder 4 = .ok (.iload_n 3, 1) := by decide +kernel
theorem dX1_pointsUnder_5 : decode cX1_pointsUnder 5 = .ok (.aload_n 0, 1) := by decide +kernel
theorem dX1_pointsUnder_6 : decode cX1_pointsUnder 6 = .ok (.getfield 12, 3) := by decide +kernel
theorem dX1_pointsUnder_9 : decode cX1_pointsUnder 9 = .ok (.invokevirtual 65, 3) := by decide +kernel
theorem dX1_pointsUnder_12 : decode cX1_pointsUnder 12 = .ok (.if_icmp .ge 42, 3) := by decide +kernel
theorem dX1_pointsUnder_15 : decode cX1_pointsUnder 15 = .ok (.aload_n 0, 1) := by decide +kernel
theorem dX1_pointsUnder_16 : decode cX1_pointsUnder 16 = .ok (.getfield 12, 3) := by decide +kernel
theorem dX1_pointsUnder_19 : decode cX1_pointsUnder 19 = .ok (.iload_n 3, 1) := by decide +kernel
theorem dX1_pointsUnder_20 : decode cX1_pointsUnder 20 = .ok (.invokevirtual 75, 3) := by decide +kernel
theorem dX1_pointsUnder_23 : decode cX1_pointsUnder 23 = .ok (.checkcast 79, 3) := by decide +kernel
theorem dX1_pointsUnder_26 : decode cX1_pointsUnder 26 = .ok (.getfield 84, 3) := by decide +kernel
theorem dX1_pointsUnder_29 : decode cX1_pointsUnder 29 = .ok (.astore 4, 2) := by decide +kernel
theorem dX1_pointsUnder_31 : decode cX1_pointsUnder 31 = .ok (.aload 4, 2) := by decide +kernel
theorem dX1_pointsUnder_33 : decode cX1_pointsUnder 33 = .ok (.ifnull 15, 3) := by decide +kernel
theorem dX1_pointsUnder_36 : decode cX1_pointsUnder 36 = .ok (.aload 4, 2) := by decide +kernel
theorem dX1_pointsUnder_38 : decode cX1_pointsUnder 38 = .ok (.aload_n 1, 1) := by decide +kernel
theorem dX1_pointsUnder_39 : decode cX1_pointsUnder 39 = .ok (.invokevirtual 93, 3) := by decide +kernel
theorem dX1_pointsUnder_42 : decode cX1_pointsUnder 42 = .ok (.ifCond .eq 6, 3) := by decide +kernel
theorem dX1_pointsUnder_45 : decode cX1_pointsUnder 45 = .ok (.iinc 2 1, 3) := by decide +kernel
theorem dX1_pointsUnder_48 : decode cX1_pointsUnder 48 = .ok (.iinc 3 1, 3) := by decide +kernel
theorem dX1_pointsUnder_51 : decode cX1_pointsUnder 51 = .ok (.goto (-47), 3) := by decide +kernel
theorem dX1_pointsUnder_54 : decode cX1_pointsUnder 54 = .ok (.iload_n 2, 1) := by decide +kernel
theorem dX1_pointsUnder_55 : decode cX1_pointsUnder 55 = .ok (.ireturn, 1) := by decide +kernel
theorem dX2_init_0 : decode cX2_init 0 = .ok (.aload_n 0, 1) := by decide +kernel
theorem dX2_init_1 : decode cX2_init 1 = .ok (.invokespecial 3, 3) := by decide +kernel
theorem dX2_init_4 : decode cX2_init 4 = .ok (.aload_n 0, 1) := by decide +kernel
theorem dX2_init_5 : decode cX2_init 5 = .ok (.aload_n 1, 1) := by decide +kernel
theorem dX2_init_6 : decode cX2_init 6 = .ok (.getfield 9, 3) := by decide +kernel
theorem dX2_init_9 : decode cX2_init 9 = .ok (.aload_n 1, 1) := by decide +kernel
theorem dX2_init_10 : decode cX2_init 10 = .ok (.getfield 15, 3) := by decide +kernel
theorem dX2_init_13 : decode cX2_init 13 = .ok (.invokestatic 19, 3) := by decide +kernel
theorem dX2_init_16 : decode cX2_init 16 = .ok (.putfield 25, 3) := by decide +kernel
theorem dX2_init_19 : decode cX2_init 19 = .ok (.aload_n 0, 1) := by decide +kernel
theorem dX2_init_20 : decode cX2_init 20 = .ok (.aload_n 1, 1) := by decide +kernel
theorem dX2_init_21 : decode cX2_init 21 = .ok (.getfield 28, 3) := by decide +kernel
theorem dX2_init_24 : decode cX2_init 24 = .ok (.aload_n 1, 1) := by decide +kernel
theorem dX2_init_25 : decode cX2_init 25 = .ok (.getfield 15, 3) := by decide +kernel
theorem dX2_init_28 : decode cX2_init 28 = .ok (.invokestatic 32, 3) := by decide +kernel
theorem dX2_init_31 : decode cX2_init 31 = .ok (.putfield 35, 3) := by decide +kernel
theorem dX2_init_34 : decode cX2_init 34 = .ok (.aload_n 0, 1) := by decide +kernel
theorem dX2_init_35 : decode cX2_init 35 = .ok (.aload_n 1, 1) := by decide +kernel
theorem dX2_init_36 : decode cX2_init 36 = .ok (.getfield 38, 3) := by decide +kernel
theorem dX2_init_39 : decode cX2_init 39 = .ok (.putfield 41, 3) := by decide +kernel
theorem dX2_init_42 : decode cX2_init 42 = .ok (.return_, 1) := by decide +kernel
theorem dX2_firstWrong_0 : decode cX2_firstWrong 0 = .ok (.iconst 1, 1) := by decide +kernel
theorem dX2_firstWrong_1 : decode cX2_firstWrong 1 = .ok (.istore_n 2, 1) := by decide +kernel
theorem dX2_firstWrong_2 : decode cX2_firstWrong 2 = .ok (.iconst 0, 1) := by decide +kernel
theorem dX2_firstWrong_3 : decode cX2_firstWrong 3 = .ok (.istore_n 3, 1) := by decide +kernel
theorem dX2_firstWrong_4 : decode cX2_firstWrong 4 = .ok (.aload_n 1, 1) := by decide +kernel
theorem dX2_firstWrong_5 : decode cX2_firstWrong 5 = .ok (.invokevirtual 42, 3) := by decide +kernel
theorem dX2_firstWrong_8 : decode cX2_firstWrong 8 = .ok (.aload_n 1, 1) := by decide +kernel
theorem dX2_firstWrong_9 : decode cX2_firstWrong 9 = .ok (.invokevirtual 45, 3) := by decide +kernel
theorem dX2_firstWrong_12 : decode cX2_firstWrong 12 = .ok (.iconst 0, 1) := by decide +kernel
theorem dX2_firstWrong_13 : decode cX2_firstWrong 13 = .ok (.istore 4, 2) := by decide +kernel
theorem dX2_firstWrong_15 : decode cX2_firstWrong 15 = .ok (.iload 4, 2) := by decide +kernel
theorem dX2_firstWrong_17 : decode cX2_firstWrong 17 = .ok (.sipush 400, 3) := by decide +kernel
theorem dX2_firstWrong_20 : decode cX2_firstWrong 20 = .ok (.if_icmp .ge 118, 3) := by decide +kernel
theorem dX2_firstWrong_23 : decode cX2_firstWrong 23 = .ok (.aload_n 0, 1) := by decide +kernel
theorem dX2_firstWrong_24 : decode cX2_firstWrong 24 = .ok (.invokevirtual 48, 3) := by decide +kernel
theorem dX2_firstWrong_27 : decode cX2_firstWrong 27 = .ok (.ifCond .eq 111, 3) := by decide +kernel
theorem dX2_firstWrong_30 : decode cX2_firstWrong 30 = .ok (.aload_n 0, 1) := by decide +kernel
theorem dX2_firstWrong_31 : decode cX2_firstWrong 31 = .ok (.invokevirtual 54, 3) := by decide +kernel
theorem dX2_firstWrong_34 : decode cX2_firstWrong 34 = .ok (.lstore 5, 2) := by decide +kernel
theorem dX2_firstWrong_36 : decode cX2_firstWrong 36 = .ok (.iload_n 2, 1) := by decide +kernel
theorem dX2_firstWrong_37 : decode cX2_firstWrong 37 = .ok (.ifCond .ne 44, 3) := by decide +kernel
theorem dX2_firstWrong_40 : decode cX2_firstWrong 40 = .ok (.lload 5, 2) := by decide +kernel
theorem dX2_firstWrong_42 : decode cX2_firstWrong 42 = .ok (.ldc2_w 58, 3) := by decide +kernel
theorem dX2_firstWrong_45 : decode cX2_firstWrong 45 = .ok (.lcmp, 1) := by decide +kernel
theorem dX2_firstWrong_46 : decode cX2_firstWrong 46 = .ok (.ifCond .eq 17, 3) := by decide +kernel
theorem dX2_firstWrong_49 : decode cX2_firstWrong 49 = .ok (.lload 5, 2) := by decide +kernel
theorem dX2_firstWrong_51 : decode cX2_firstWrong 51 = .ok (.ldc2_w 60, 3) := by decide +kernel
theorem dX2_firstWrong_54 : decode cX2_firstWrong 54 = .ok (.lcmp, 1) := by decide +kernel
theorem dX2_firstWrong_55 : decode cX2_firstWrong 55 = .ok (.ifCond .eq 8, 3) := by decide +kernel
theorem dX2_firstWrong_58 : decode cX2_firstWrong 58 = .ok (.aload_n 0, 1) := by decide +kernel
theorem dX2_firstWrong_59 : decode cX2_firstWrong 59 = .ok (.getfield 62, 3) := by decide +kernel
theorem dX2_firstWrong_62 : decode cX2_firstWrong 62 = .ok (.ireturn, 1) := by decide +kernel
theorem dX2_firstWrong_63 : decode cX2_firstWrong 63 = .ok (.lload 5, 2) := by decide +kernel
theorem dX2_firstWrong_65 : decode cX2_firstWrong 65 = .ok (.ldc2_w 60, 3) := by decide +kernel
theorem dX2_firstWrong_68 : decode cX2_firstWrong 68 = .ok (.lcmp, 1) := by decide +kernel
theorem dX2_firstWrong_69 : decode cX2_firstWrong 69 = .ok (.ifCond .ne 7, 3) := by decide +kernel
theorem dX2_firstWrong_72 : decode cX2_firstWrong 72 = .ok (.aload_n 1, 1) := by decide +kernel
theorem dX2_firstWrong_73 : decode cX2_firstWrong 73 = .ok (.invokevirtual 45, 3) := by decide +kernel
theorem dX2_firstWrong_76 : decode cX2_firstWrong 76 = .ok (.iconst 1, 1) := by decide +kernel
theorem dX2_firstWrong_77 : decode cX2_firstWrong 77 = .ok (.istore_n 2, 1) := by decide +kernel
theorem dX2_firstWrong_78 : decode cX2_firstWrong 78 = .ok (.goto 54, 3) := by decide +kernel
theorem dX2_firstWrong_81 : decode cX2_firstWrong 81 = .ok (.lload 5, 2) := by decide +kernel
theorem dX2_firstWrong_83 : decode cX2_firstWrong 83 = .ok (.ldc2_w 65, 3) := by decide +kernel
theorem dX2_firstWrong_86 : decode cX2_firstWrong 86 = .ok (.lcmp, 1) := by decide +kernel
theorem dX2_firstWrong_87 : decode cX2_firstWrong 87 = .ok (.ifCond .ne 12, 3) := by decide +kernel
theorem dX2_firstWrong_90 : decode cX2_firstWrong 90 = .ok (.iload_n 3, 1) := by decide +kernel
theorem dX2_firstWrong_91 : decode cX2_firstWrong 91 = .ok (.ifCond .ne 8, 3) := by decide +kernel
theorem dX2_firstWrong_94 : decode cX2_firstWrong 94 = .ok (.iconst 1, 1) := by decide +kernel
theorem dX2_firstWrong_95 : decode cX2_firstWrong 95 = .ok (.istore_n 3, 1) := by decide +kernel
theorem dX2_firstWrong_96 : decode cX2_firstWrong 96 = .ok (.goto 36, 3) := by decide +kernel
theorem dX2_firstWrong_99 : decode cX2_firstWrong 99 = .ok (.lload 5, 2) := by decide +kernel
theorem dX2_firstWrong_101 : decode cX2_firstWrong 101 = .ok (.invokestatic 67, 3) := by decide +kernel
theorem dX2_firstWrong_104 : decode cX2_firstWrong 104 = .ok (.ifCond .eq 12, 3) := by decide +kernel
theorem dX2_firstWrong_107 : decode cX2_firstWrong 107 = .ok (.aload_n 1, 1) := by decide +kernel
theorem dX2_firstWrong_108 : decode cX2_firstWrong 108 = .ok (.getfield 15, 3) := by decide +kernel
theorem dX2_firstWrong_111 : decode cX2_firstWrong 111 = .ok (.bipush 12, 2) := by decide +kernel
theorem dX2_firstWrong_113 : decode cX2_firstWrong 113 = .ok (.if_icmp .lt 8, 3) := by decide +kernel
theorem dX2_firstWrong_116 : decode cX2_firstWrong 116 = .ok (.aload_n 0, 1) := by decide +kernel
theorem dX2_firstWrong_117 : decode cX2_firstWrong 117 = .ok (.getfield 62, 3) := by decide +kernel
theorem dX2_firstWrong_120 : decode cX2_firstWrong 120 = .ok (.ireturn, 1) := by decide +kernel
theorem dX2_firstWrong_121 : decode cX2_firstWrong 121 = .ok (.aload_n 1, 1) := by decide +kernel
theorem dX2_firstWrong_122 : decode cX2_firstWrong 122 = .ok (.lload 5, 2) := by decide +kernel
theorem dX2_firstWrong_124 : decode cX2_firstWrong 124 = .ok (.iload_n 3, 1) := by decide +kernel
theorem dX2_firstWrong_125 : decode cX2_firstWrong 125 = .ok (.invokevirtual 71, 3) := by decide +kernel
theorem dX2_firstWrong_128 : decode cX2_firstWrong 128 = .ok (.iconst 0, 1) := by decide +kernel
theorem dX2_firstWrong_129 : decode cX2_firstWrong 129 = .ok (.istore_n 2, 1) := by decide +kernel
theorem dX2_firstWrong_130 : decode cX2_firstWrong 130 = .ok (.iconst 0, 1) := by decide +kernel
theorem dX2_firstWrong_131 : decode cX2_firstWrong 131 = .ok (.istore_n 3, 1) := by decide +kernel
theorem dX2_firstWrong_132 : decode cX2_firstWrong 132 = .ok (.iinc 4 1, 3) := by decide +kernel
theorem dX2_firstWrong_135 : decode cX2_firstWrong 135 = .ok (.goto (-120), 3) := by decide +kernel
theorem dX2_firstWrong_138 : decode cX2_firstWrong 138 = .ok (.iload_n 2, 1) := by decide +kernel
theorem dX2_firstWrong_139 : decode cX2_firstWrong 139 = .ok (.ifCond .eq 10, 3) := by decide +kernel
theorem dX2_firstWrong_142 : decode cX2_firstWrong 142 = .ok (.aload_n 0, 1) := by decide +kernel
theorem dX2_firstWrong_143 : decode cX2_firstWrong 143 = .ok (.getfield 75, 3) := by decide +kernel
theorem dX2_firstWrong_146 : decode cX2_firstWrong 146 = .ok (.goto 4, 3) := by decide +kernel
theorem dX2_firstWrong_149 : decode cX2_firstWrong 149 = .ok (.iconst (-1), 1) := by decide +kernel
theorem dX2_firstWrong_150 : decode cX2_firstWrong 150 = .ok (.ireturn, 1) := by decide +kernel
theorem dX2_isPlainWord_0 : decode cX2_isPlainWord 0 = .ok (.lload_n 0, 1) := by decide +kernel
theorem dX2_isPlainWord_1 : decode cX2_isPlainWord 1 = .ok (.lconst 0, 1) := by decide +kernel
theorem dX2_isPlainWord_2 : decode cX2_isPlainWord 2 = .ok (.lcmp, 1) := by decide +kernel
theorem dX2_isPlainWord_3 : decode cX2_isPlainWord 3 = .ok (.ifCond .eq 31, 3) := by decide +kernel
theorem dX2_isPlainWord_6 : decode cX2_isPlainWord 6 = .ok (.lload_n 0, 1) := by decide +kernel
theorem dX2_isPlainWord_7 : decode cX2_isPlainWord 7 = .ok (.ldc2_w 58, 3) := by decide +kernel
theorem dX2_isPlainWord_10 : decode cX2_isPlainWord 10 = .ok (.lcmp, 1) := by decide +kernel
theorem dX2_isPlainWord_11 : decode cX2_isPlainWord 11 = .ok (.ifCond .eq 23, 3) := by decide +kernel
theorem dX2_isPlainWord_14 : decode cX2_isPlainWord 14 = .ok (.lload_n 0, 1) := by decide +kernel
theorem dX2_isPlainWord_15 : decode cX2_isPlainWord 15 = .ok (.ldc2_w 60, 3) := by decide +kernel
theorem dX2_isPlainWord_18 : decode cX2_isPlainWord 18 = .ok (.lcmp, 1) := by decide +kernel
theorem dX2_isPlainWord_19 : decode cX2_isPlainWord 19 = .ok (.ifCond .eq 15, 3) := by decide +kernel
theorem dX2_isPlainWord_22 : decode cX2_isPlainWord 22 = .ok (.lload_n 0, 1) := by decide +kernel
theorem dX2_isPlainWord_23 : decode cX2_isPlainWord 23 = .ok (.ldc2_w 65, 3) := by decide +kernel
theorem dX2_isPlainWord_26 : decode cX2_isPlainWord 26 = .ok (.lcmp, 1) := by decide +kernel
theorem dX2_isPlainWord_27 : decode cX2_isPlainWord 27 = .ok (.ifCond .eq 7, 3) := by decide +kernel
theorem dX2_isPlainWord_30 : decode cX2_isPlainWord 30 = .ok (.iconst 1, 1) := by decide +kernel
theorem dX2_isPlainWord_31 : decode cX2_isPlainWord 31 = .ok (.goto 4, 3) := by decide +kernel
theorem dX2_isPlainWord_34 : decode cX2_isPlainWord 34 = .ok (.iconst 0, 1) := by decide +kernel
theorem dX2_isPlainWord_35 : decode cX2_isPlainWord 35 = .ok (.ireturn, 1) := by decide +kernel
theorem dX2_fits_0 : decode cX2_fits 0 = .ok (.iconst 0, 1) := by decide +kernel
theorem dX2_fits_1 : decode cX2_fits 1 = .ok (.istore_n 2, 1) := by decide +kernel
theorem dX2_fits_2 : decode cX2_fits 2 = .ok (.iconst 1, 1) := by decide +kernel
theorem dX2_fits_3 : decode cX2_fits 3 = .ok (.istore_n 3, 1) := by decide +kernel
theorem dX2_fits_4 : decode cX2_fits 4 = .ok (.iconst 0, 1) := by decide +kernel
theorem dX2_fits_5 : decode cX2_fits 5 = .ok (.istore 4, 2) := by decide +kernel
theorem dX2_fits_7 : decode cX2_fits 7 = .ok (.iload 4, 2) := by decide +kernel
theorem dX2_fits_9 : decode cX2_fits 9 = .ok (.aload_n 0, 1) := by decide +kernel
theorem dX2_fits_10 : decode cX2_fits 10 = .ok (.getfield 25, 3) := by decide +kernel
theorem dX2_fits_13 : decode cX2_fits 13 = .ok (.arraylength, 1) := by decide +kernel
theorem dX2_fits_14 : decode cX2_fits 14 = .ok (.if_icmp .ge 88, 3) := by decide +kernel
theorem dX2_fits_17 : decode cX2_fits 17 = .ok (.iload 4, 2) := by decide +kernel
theorem dX2_fits_19 : decode cX2_fits 19 = .ok (.aload_n 0, 1) := by decide +kernel
theorem dX2_fits_20 : decode cX2_fits 20 = .ok (.getfield 35, 3) := by decide +kernel
theorem dX2_fits_23 : decode cX2_fits 23 = .ok (.arraylength, 1) := by decide +kernel
theorem dX2_fits_24 : decode cX2_fits 24 = .ok (.if_icmp .ge 78, 3) := by decide +kernel
theorem dX2_fits_27 : decode cX2_fits 27 = .ok (.aload_n 0, 1) := by decide +kernel
theorem dX2_fits_28 : decode cX2_fits 28 = .ok (.getfield 35, 3) := by decide +kernel
theorem dX2_fits_31 : decode cX2_fits 31 = .ok (.iload 4, 2) := by decide +kernel
theorem dX2_fits_33 : decode cX2_fits 33 = .ok (.iaload, 1) := by decide +kernel
theorem dX2_fits_34 : decode cX2_fits 34 = .ok (.iload_n 2, 1) := by decide +kernel
theorem dX2_fits_35 : decode cX2_fits 35 = .ok (.if_icmp .eq 19, 3) := by decide +kernel
theorem dX2_fits_38 : decode cX2_fits 38 = .ok (.iload_n 3, 1) := by decide +kernel
theorem dX2_fits_39 : decode cX2_fits 39 = .ok (.ifCond .eq 5, 3) := by decide +kernel
theorem dX2_fits_42 : decode cX2_fits 42 = .ok (.iconst 1, 1) := by decide +kernel
theorem dX2_fits_43 : decode cX2_fits 43 = .ok (.ireturn, 1) := by decide +kernel
theorem dX2_fits_44 : decode cX2_fits 44 = .ok (.aload_n 0, 1) := by decide +kernel
theorem dX2_fits_45 : decode cX2_fits 45 = .ok (.getfield 35, 3) := by decide +kernel
theorem dX2_fits_48 : decode cX2_fits 48 = .ok (.iload 4, 2) := by decide +kernel
theorem dX2_fits_50 : decode cX2_fits 50 = .ok (.iaload, 1) := by decide +kernel
theorem dX2_fits_51 : decode cX2_fits 51 = .ok (.istore_n 2, 1) := by decide +kernel
theorem dX2_fits_52 : decode cX2_fits 52 = .ok (.iconst 1, 1) := by decide +kernel
theorem dX2_fits_53 : decode cX2_fits 53 = .ok (.istore_n 3, 1) := by decide +kernel
theorem dX2_fits_54 : decode cX2_fits 54 = .ok (.aload_n 0, 1) := by decide +kernel
theorem dX2_fits_55 : decode cX2_fits 55 = .ok (.getfield 41, 3) := by decide +kernel
theorem dX2_fits_58 : decode cX2_fits 58 = .ok (.iload 4, 2) := by decide +kernel
theorem dX2_fits_60 : decode cX2_fits 60 = .ok (.ishr, 1) := by decide +kernel
theorem dX2_fits_61 : decode cX2_fits 61 = .ok (.iconst 1, 1) := by decide +kernel
theorem dX2_fits_62 : decode cX2_fits 62 = .ok (.iand, 1) := by decide +kernel
theorem dX2_fits_63 : decode cX2_fits 63 = .ok (.iconst 1, 1) := by decide +kernel
theorem dX2_fits_64 : decode cX2_fits 64 = .ok (.if_icmp .ne 7, 3) := by decide +kernel
theorem dX2_fits_67 : decode cX2_fits 67 = .ok (.iconst 1, 1) := by decide +kernel
theorem dX2_fits_68 : decode cX2_fits 68 = .ok (.goto 4, 3) := by decide +kernel
theorem dX2_fits_71 : decode cX2_fits 71 = .ok (.iconst 0, 1) := by decide +kernel
theorem dX2_fits_72 : decode cX2_fits 72 = .ok (.istore 5, 2) := by decide +kernel
theorem dX2_fits_74 : decode cX2_fits 74 = .ok (.iload_n 3, 1) := by decide +kernel
theorem dX2_fits_75 : decode cX2_fits 75 = .ok (.ifCond .eq 21, 3) := by decide +kernel
theorem dX2_fits_78 : decode cX2_fits 78 = .ok (.aload_n 1, 1) := by decide +kernel
theorem dX2_fits_79 : decode cX2_fits 79 = .ok (.aload_n 0, 1) := by decide +kernel
theorem dX2_fits_80 : decode cX2_fits 80 = .ok (.getfield 25, 3) := by decide +kernel
theorem dX2_fits_83 : decode cX2_fits 83 = .ok (.iload 4, 2) := by decide +kernel
theorem dX2_fits_85 : decode cX2_fits 85 = .ok (.laload, 1) := by decide +kernel
theorem dX2_fits_86 : decode cX2_fits 86 = .ok (.invokevirtual 78, 3) := by decide +kernel
theorem dX2_fits_89 : decode cX2_fits 89 = .ok (.iload 5, 2) := by decide +kernel
theorem dX2_fits_91 : decode cX2_fits 91 = .ok (.if_icmp .ne 5, 3) := by decide +kernel
theorem dX2_fits_94 : decode cX2_fits 94 = .ok (.iconst 0, 1) := by decide +kernel
theorem dX2_fits_95 : decode cX2_fits 95 = .ok (.istore_n 3, 1) := by decide +kernel
theorem dX2_fits_96 : decode cX2_fits 96 = .ok (.iinc 4 1, 3) := by decide +kernel
theorem dX2_fits_99 : decode cX2_fits 99 = .ok (.goto (-92), 3) := by decide +kernel
theorem dX2_fits_102 : decode cX2_fits 102 = .ok (.iload_n 3, 1) := by decide +kernel
theorem dX2_fits_103 : decode cX2_fits 103 = .ok (.ireturn, 1) := by decide +kernel
theorem dX3_init_0 : decode cX3_init 0 = .ok (.aload_n 0, 1) := by decide +kernel
theorem dX3_init_1 : decode cX3_init 1 = .ok (.invokespecial 3, 3) := by decide +kernel
theorem dX3_init_4 : decode cX3_init 4 = .ok (.aload_n 0, 1) := by decide +kernel
theorem dX3_init_5 : decode cX3_init 5 = .ok (.aconst_null, 1) := by decide +kernel
theorem dX3_init_6 : decode cX3_init 6 = .ok (.putfield 9, 3) := by decide +kernel
theorem dX3_init_9 : decode cX3_init 9 = .ok (.aload_n 0, 1) := by decide +kernel
theorem dX3_init_10 : decode cX3_init 10 = .ok (.iconst (-1), 1) := by decide +kernel
theorem dX3_init_11 : decode cX3_init 11 = .ok (.putfield 15, 3) := by decide +kernel
theorem dX3_init_14 : decode cX3_init 14 = .ok (.aload_n 0, 1) := by decide +kernel
theorem dX3_init_15 : decode cX3_init 15 = .ok (.iconst (-1), 1) := by decide +kernel
theorem dX3_init_16 : decode cX3_init 16 = .ok (.putfield 19, 3) := by decide +kernel
theorem dX3_init_19 : decode cX3_init 19 = .ok (.aload_n 0, 1) := by decide +kernel
theorem dX3_init_20 : decode cX3_init 20 = .ok (.aload_n 1, 1) := by decide +kernel
theorem dX3_init_21 : decode cX3_init 21 = .ok (.putfield 22, 3) := by decide +kernel
theorem dX3_init_24 : decode cX3_init 24 = .ok (.return_, 1) := by decide +kernel
theorem dX3_hasWord_0 : decode cX3_hasWord 0 = .ok (.iconst 0, 1) := by decide +kernel
theorem dX3_hasWord_1 : decode cX3_hasWord 1 = .ok (.istore_n 3, 1) := by decide +kernel
theorem dX3_hasWord_2 : decode cX3_hasWord 2 = .ok (.iload_n 3, 1) := by decide +kernel
theorem dX3_hasWord_3 : decode cX3_hasWord 3 = .ok (.aload_n 0, 1) := by decide +kernel
theorem dX3_hasWord_4 : decode cX3_hasWord 4 = .ok (.getfield 22, 3) := by decide +kernel
theorem dX3_hasWord_7 : decode cX3_hasWord 7 = .ok (.arraylength, 1) := by decide +kernel
theorem dX3_hasWord_8 : decode cX3_hasWord 8 = .ok (.if_icmp .ge 22, 3) := by decide +kernel
theorem dX3_hasWord_11 : decode cX3_hasWord 11 = .ok (.aload_n 0, 1) := by decide +kernel
theorem dX3_hasWord_12 : decode cX3_hasWord 12 = .ok (.getfield 22, 3) := by decide +kernel
theorem dX3_hasWord_15 : decode cX3_hasWord 15 = .ok (.iload_n 3, 1) := by decide +kernel
theorem dX3_hasWord_16 : decode cX3_hasWord 16 = .ok (.laload, 1) := by decide +kernel
theorem dX3_hasWord_17 : decode cX3_hasWord 17 = .ok (.lload_n 1, 1) := by decide +kernel
theorem dX3_hasWord_18 : decode cX3_hasWord 18 = .ok (.lcmp, 1) := by decide +kernel
theorem dX3_hasWord_19 : decode cX3_hasWord 19 = .ok (.ifCond .ne 5, 3) := by decide +kernel
theorem dX3_hasWord_22 : decode cX3_hasWord 22 = .ok (.iconst 1, 1) := by decide +kernel
theorem dX3_hasWord_23 : decode cX3_hasWord 23 = .ok (.ireturn, 1) := by decide +kernel
theorem dX3_hasWord_24 : decode cX3_hasWord 24 = .ok (.iinc 3 1, 3) := by decide +kernel
theorem dX3_hasWord_27 : decode cX3_hasWord 27 = .ok (.goto (-25), 3) := by decide +kernel
theorem dX3_hasWord_30 : decode cX3_hasWord 30 = .ok (.iconst 0, 1) := by decide +kernel
theorem dX3_hasWord_31 : decode cX3_hasWord 31 = .ok (.ireturn, 1) := by decide +kernel
theorem dX3_putTo_0 : decode cX3_putTo 0 = .ok (.aload_n 1, 1) := by decide +kernel
theorem dX3_putTo_1 : decode cX3_putTo 1 = .ok (.aload_n 0, 1) := by decide +kernel
theorem dX3_putTo_2 : decode cX3_putTo 2 = .ok (.getfield 9, 3) := by decide +kernel
theorem dX3_putTo_5 : decode cX3_putTo 5 = .ok (.if_acmp .ne 5, 3) := by decide +kernel
theorem dX3_putTo_8 : decode cX3_putTo 8 = .ok (.iconst 0, 1) := by decide +kernel
theorem dX3_putTo_9 : decode cX3_putTo 9 = .ok (.ireturn, 1) := by decide +kernel
theorem dX3_putTo_10 : decode cX3_putTo 10 = .ok (.aload_n 0, 1) := by decide +kernel
theorem dX3_putTo_11 : decode cX3_putTo 11 = .ok (.aload_n 1, 1) := by decide +kernel
theorem dX3_putTo_12 : decode cX3_putTo 12 = .ok (.putfield 9, 3) := by decide +kernel
theorem dX3_putTo_15 : decode cX3_putTo 15 = .ok (.aload_n 0, 1) := by decide +kernel
theorem dX3_putTo_16 : decode cX3_putTo 16 = .ok (.aload_n 1, 1) := by decide +kernel
theorem dX3_putTo_17 : decode cX3_putTo 17 = .ok (.ifnonnull 7, 3) := by decide +kernel
theorem dX3_putTo_20 : decode cX3_putTo 20 = .ok (.iconst (-1), 1) := by decide +kernel
theorem dX3_putTo_21 : decode cX3_putTo 21 = .ok (.goto 9, 3) := by decide +kernel
theorem dX3_putTo_24 : decode cX3_putTo 24 = .ok (.iload_n 2, 1) := by decide +kernel
theorem dX3_putTo_25 : decode cX3_putTo 25 = .ok (.aload_n 1, 1) := by decide +kernel
theorem dX3_putTo_26 : decode cX3_putTo 26 = .ok (.getfield 26, 3) := by decide +kernel
theorem dX3_putTo_29 : decode cX3_putTo 29 = .ok (.iadd, 1) := by decide +kernel
theorem dX3_putTo_30 : decode cX3_putTo 30 = .ok (.putfield 15, 3) := by decide +kernel
theorem dX3_putTo_33 : decode cX3_putTo 33 = .ok (.iconst 1, 1) := by decide +kernel
theorem dX3_putTo_34 : decode cX3_putTo 34 = .ok (.ireturn, 1) := by decide +kernel
theorem dX3_isAnswered_0 : decode cX3_isAnswered 0 = .ok (.aload_n 0, 1) := by decide +kernel
theorem dX3_isAnswered_1 : decode cX3_isAnswered 1 = .ok (.getfield 19, 3) := by decide +kernel
theorem dX3_isAnswered_4 : decode cX3_isAnswered 4 = .ok (.iconst (-1), 1) := by decide +kernel
theorem dX3_isAnswered_5 : decode cX3_isAnswered 5 = .ok (.if_icmp .eq 7, 3) := by decide +kernel
theorem dX3_isAnswered_8 : decode cX3_isAnswered 8 = .ok (.iconst 1, 1) := by decide +kernel
theorem dX3_isAnswered_9 : decode cX3_isAnswered 9 = .ok (.goto 4, 3) := by decide +kernel
theorem dX3_isAnswered_12 : decode cX3_isAnswered 12 = .ok (.iconst 0, 1) := by decide +kernel
theorem dX3_isAnswered_13 : decode cX3_isAnswered 13 = .ok (.ireturn, 1) := by decide +kernel
theorem dX3_isWaitingAt_0 : decode cX3_isWaitingAt 0 = .ok (.aload_n 0, 1) := by decide +kernel
theorem dX3_isWaitingAt_1 : decode cX3_isWaitingAt 1 = .ok (.getfield 19, 3) := by decide +kernel
theorem dX3_isWaitingAt_4 : decode cX3_isWaitingAt 4 = .ok (.iconst (-1), 1) := by decide +kernel
theorem dX3_isWaitingAt_5 : decode cX3_isWaitingAt 5 = .ok (.if_icmp .ne 25, 3) := by decide +kernel
theorem dX3_isWaitingAt_8 : decode cX3_isWaitingAt 8 = .ok (.aload_n 0, 1) := by decide +kernel
theorem dX3_isWaitingAt_9 : decode cX3_isWaitingAt 9 = .ok (.getfield 9, 3) := by decide +kernel
theorem dX3_isWaitingAt_12 : decode cX3_isWaitingAt 12 = .ok (.ifnull 18, 3) := by decide +kernel
theorem dX3_isWaitingAt_15 : decode cX3_isWaitingAt 15 = .ok (.aload_n 0, 1) := by decide +kernel
theorem dX3_isWaitingAt_16 : decode cX3_isWaitingAt 16 = .ok (.getfield 9, 3) := by decide +kernel
theorem dX3_isWaitingAt_19 : decode cX3_isWaitingAt 19 = .ok (.getfield 31, 3) := by decide +kernel
theorem dX3_isWaitingAt_22 : decode cX3_isWaitingAt 22 = .ok (.iload_n 1, 1) := by decide +kernel
theorem dX3_isWaitingAt_23 : decode cX3_isWaitingAt 23 = .ok (.if_icmp .ne 7, 3) := by decide +kernel
theorem dX3_isWaitingAt_26 : decode cX3_isWaitingAt 26 = .ok (.iconst 1, 1) := by decide +kernel
theorem dX3_isWaitingAt_27 : decode cX3_isWaitingAt 27 = .ok (.goto 4, 3) := by decide +kernel
theorem dX3_isWaitingAt_30 : decode cX3_isWaitingAt 30 = .ok (.iconst 0, 1) := by decide +kernel
theorem dX3_isWaitingAt_31 : decode cX3_isWaitingAt 31 = .ok (.ireturn, 1) := by decide +kernel
theorem dX3_isMorePressing_0 : decode cX3_isMorePressing 0 = .ok (.aload_n 0, 1) := by decide +kernel
theorem dX3_isMorePressing_1 : decode cX3_isMorePressing 1 = .ok (.invokevirtual 34, 3) := by decide +kernel
theorem dX3_isMorePressing_4 : decode cX3_isMorePressing 4 = .ok (.aload_n 1, 1) := by decide +kernel
theorem dX3_isMorePressing_5 : decode cX3_isMorePressing 5 = .ok (.invokevirtual 34, 3) := by decide +kernel
theorem dX3_isMorePressing_8 : decode cX3_isMorePressing 8 = .ok (.if_icmp .eq 8, 3) := by decide +kernel
theorem dX3_isMorePressing_11 : decode cX3_isMorePressing 11 = .ok (.aload_n 0, 1) := by decide +kernel
theorem dX3_isMorePressing_12 : decode cX3_isMorePressing 12 = .ok (.invokevirtual 34, 3) := by decide +kernel
theorem dX3_isMorePressing_15 : decode cX3_isMorePressing 15 = .ok (.ireturn, 1) := by decide +kernel
theorem dX3_isMorePressing_16 : decode cX3_isMorePressing 16 = .ok (.aload_n 0, 1) := by decide +kernel
theorem dX3_isMorePressing_17 : decode cX3_isMorePressing 17 = .ok (.getfield 15, 3) := by decide +kernel
theorem dX3_isMorePressing_20 : decode cX3_isMorePressing 20 = .ok (.aload_n 1, 1) := by decide +kernel
theorem dX3_isMorePressing_21 : decode cX3_isMorePressing 21 = .ok (.getfield 15, 3) := by decide +kernel
theorem dX3_isMorePressing_24 : decode cX3_isMorePressing 24 = .ok (.if_icmp .ge 7, 3) := by decide +kernel
theorem dX3_isMorePressing_27 : decode cX3_isMorePressing 27 = .ok (.iconst 1, 1) := by decide +kernel
theorem dX3_isMorePressing_28 : decode cX3_isMorePressing 28 = .ok (.goto 4, 3) := by decide +kernel
theorem dX3_isMorePressing_31 : decode cX3_isMorePressing 31 = .ok (.iconst 0, 1) := by decide +kernel
theorem dX3_isMorePressing_32 : decode cX3_isMorePressing 32 = .ok (.ireturn, 1) := by decide +kernel
theorem dX3_isThreat_0 : decode cX3_isThreat 0 = .ok (.aload_n 0, 1) := by decide +kernel
theorem dX3_isThreat_1 : decode cX3_isThreat 1 = .ok (.getfield 9, 3) := by decide +kernel
theorem dX3_isThreat_4 : decode cX3_isThreat 4 = .ok (.ifnull 17, 3) := by decide +kernel
theorem dX3_isThreat_7 : decode cX3_isThreat 7 = .ok (.aload_n 0, 1) := by decide +kernel
theorem dX3_isThreat_8 : decode cX3_isThreat 8 = .ok (.getfield 9, 3) := by decide +kernel
theorem dX3_isThreat_11 : decode cX3_isThreat 11 = .ok (.getfield 38, 3) := by decide +kernel
theorem dX3_isThreat_14 : decode cX3_isThreat 14 = .ok (.ifCond .eq 7, 3) := by decide +kernel
theorem dX3_isThreat_17 : decode cX3_isThreat 17 = .ok (.iconst 1, 1) := by decide +kernel
theorem dX3_isThreat_18 : decode cX3_isThreat 18 = .ok (.goto 4, 3) := by decide +kernel
theorem dX3_isThreat_21 : decode cX3_isThreat 21 = .ok (.iconst 0, 1) := by decide +kernel
theorem dX3_isThreat_22 : decode cX3_isThreat 22 = .ok (.ireturn, 1) := by decide +kernel
theorem dX3_isCountedAs_0 : decode cX3_isCountedAs 0 = .ok (.iload_n 1, 1) := by decide +kernel
theorem dX3_isCountedAs_1 : decode cX3_isCountedAs 1 = .ok (.tableswitch 101 4 7 #[31, 33, 54, 68], 31) := by decide +kernel
theorem dX3_isCountedAs_32 : decode cX3_isCountedAs 32 = .ok (.iconst 1, 1) := by decide +kernel
theorem dX3_isCountedAs_33 : decode cX3_isCountedAs 33 = .ok (.ireturn, 1) := by decide +kernel
theorem dX3_isCountedAs_34 : decode cX3_isCountedAs 34 = .ok (.aload_n 0, 1) := by decide +kernel
theorem dX3_isCountedAs_35 : decode cX3_isCountedAs 35 = .ok (.getfield 9, 3) := by decide +kernel
theorem dX3_isCountedAs_38 : decode cX3_isCountedAs 38 = .ok (.ifnonnull 15, 3) := by decide +kernel
theorem dX3_isCountedAs_41 : decode cX3_isCountedAs 41 = .ok (.aload_n 0, 1) := by decide +kernel
theorem dX3_isCountedAs_42 : decode cX3_isCountedAs 42 = .ok (.getfield 19, 3) := by decide +kernel
theorem dX3_isCountedAs_45 : decode cX3_isCountedAs 45 = .ok (.iconst (-1), 1) := by decide +kernel
theorem dX3_isCountedAs_46 : decode cX3_isCountedAs 46 = .ok (.if_icmp .ne 7, 3) := by decide +kernel
theorem dX3_isCountedAs_49 : decode cX3_isCountedAs 49 = .ok (.iconst 1, 1) := by decide +kernel
theorem dX3_isCountedAs_50 : decode cX3_isCountedAs 50 = .ok (.goto 4, 3) := by decide +kernel
theorem dX3_isCountedAs_53 : decode cX3_isCountedAs 53 = .ok (.iconst 0, 1) := by decide +kernel
theorem dX3_isCountedAs_54 : decode cX3_isCountedAs 54 = .ok (.ireturn, 1) := by decide +kernel
theorem dX3_isCountedAs_55 : decode cX3_isCountedAs 55 = .ok (.aload_n 0, 1) := by decide +kernel
theorem dX3_isCountedAs_56 : decode cX3_isCountedAs 56 = .ok (.getfield 19, 3) := by decide +kernel
theorem dX3_isCountedAs_59 : decode cX3_isCountedAs 59 = .ok (.iconst (-1), 1) := by decide +kernel
theorem dX3_isCountedAs_60 : decode cX3_isCountedAs 60 = .ok (.if_icmp .eq 7, 3) := by decide +kernel
theorem dX3_isCountedAs_63 : decode cX3_isCountedAs 63 = .ok (.iconst 1, 1) := by decide +kernel
theorem dX3_isCountedAs_64 : decode cX3_isCountedAs 64 = .ok (.goto 4, 3) := by decide +kernel
theorem dX3_isCountedAs_67 : decode cX3_isCountedAs 67 = .ok (.iconst 0, 1) := by decide +kernel
theorem dX3_isCountedAs_68 : decode cX3_isCountedAs 68 = .ok (.ireturn, 1) := by decide +kernel
theorem dX3_isCountedAs_69 : decode cX3_isCountedAs 69 = .ok (.aload_n 0, 1) := by decide +kernel
theorem dX3_isCountedAs_70 : decode cX3_isCountedAs 70 = .ok (.getfield 19, 3) := by decide +kernel
theorem dX3_isCountedAs_73 : decode cX3_isCountedAs 73 = .ok (.iconst (-1), 1) := by decide +kernel
theorem dX3_isCountedAs_74 : decode cX3_isCountedAs 74 = .ok (.if_icmp .eq 26, 3) := by decide +kernel
theorem dX3_isCountedAs_77 : decode cX3_isCountedAs 77 = .ok (.aload_n 0, 1) := by decide +kernel
theorem dX3_isCountedAs_78 : decode cX3_isCountedAs 78 = .ok (.getfield 15, 3) := by decide +kernel
theorem dX3_isCountedAs_81 : decode cX3_isCountedAs 81 = .ok (.iconst (-1), 1) := by decide +kernel
theorem dX3_isCountedAs_82 : decode cX3_isCountedAs 82 = .ok (.if_icmp .eq 18, 3) := by decide +kernel
theorem dX3_isCountedAs_85 : decode cX3_isCountedAs 85 = .ok (.aload_n 0, 1) := by decide +kernel
theorem dX3_isCountedAs_86 : decode cX3_isCountedAs 86 = .ok (.getfield 19, 3) := by decide +kernel
theorem dX3_isCountedAs_89 : decode cX3_isCountedAs 89 = .ok (.aload_n 0, 1) := by decide +kernel
theorem dX3_isCountedAs_90 : decode cX3_isCountedAs 90 = .ok (.getfield 15, 3) := by decide +kernel
theorem dX3_isCountedAs_93 : decode cX3_isCountedAs 93 = .ok (.if_icmp .le 7, 3) := by decide +kernel
theorem dX3_isCountedAs_96 : decode cX3_isCountedAs 96 = .ok (.iconst 1, 1) := by decide +kernel
theorem dX3_isCountedAs_97 : decode cX3_isCountedAs 97 = .ok (.goto 4, 3) := by decide +kernel
theorem dX3_isCountedAs_100 : decode cX3_isCountedAs 100 = .ok (.iconst 0, 1) := by decide +kernel
theorem dX3_isCountedAs_101 : decode cX3_isCountedAs 101 = .ok (.ireturn, 1) := by decide +kernel
theorem dX3_isCountedAs_102 : decode cX3_isCountedAs 102 = .ok (.iconst 0, 1) := by decide +kernel
theorem dX3_isCountedAs_103 : decode cX3_isCountedAs 103 = .ok (.ireturn, 1) := by decide +kernel
theorem dX4_init_0 : decode cX4_init 0 = .ok (.aload_n 0, 1) := by decide +kernel
theorem dX4_init_1 : decode cX4_init 1 = .ok (.invokespecial 3, 3) := by decide +kernel
theorem dX4_init_4 : decode cX4_init 4 = .ok (.aload_n 0, 1) := by decide +kernel
theorem dX4_init_5 : decode cX4_init 5 = .ok (.sipush 400, 3) := by decide +kernel
theorem dX4_init_8 : decode cX4_init 8 = .ok (.newarray .byte, 2) := by decide +kernel
theorem dX4_init_10 : decode cX4_init 10 = .ok (.putfield 9, 3) := by decide +kernel
theorem dX4_init_13 : decode cX4_init 13 = .ok (.aload_n 0, 1) := by decide +kernel
theorem dX4_init_14 : decode cX4_init 14 = .ok (.iconst 0, 1) := by decide +kernel
theorem dX4_init_15 : decode cX4_init 15 = .ok (.putfield 15, 3) := by decide +kernel
theorem dX4_init_18 : decode cX4_init 18 = .ok (.aload_n 0, 1) := by decide +kernel
theorem dX4_init_19 : decode cX4_init 19 = .ok (.iconst 0, 1) := by decide +kernel
theorem dX4_init_20 : decode cX4_init 20 = .ok (.putfield 19, 3) := by decide +kernel
theorem dX4_init_23 : decode cX4_init 23 = .ok (.aload_n 0, 1) := by decide +kernel
theorem dX4_init_24 : decode cX4_init 24 = .ok (.iconst 0, 1) := by decide +kernel
theorem dX4_init_25 : decode cX4_init 25 = .ok (.putfield 22, 3) := by decide +kernel
theorem dX4_init_28 : decode cX4_init 28 = .ok (.aload_n 0, 1) := by decide +kernel
theorem dX4_init_29 : decode cX4_init 29 = .ok (.iconst 0, 1) := by decide +kernel
theorem dX4_init_30 : decode cX4_init 30 = .ok (.putfield 25, 3) := by decide +kernel
theorem dX4_init_33 : decode cX4_init 33 = .ok (.return_, 1) := by decide +kernel
theorem dX4_hasRoom_0 : decode cX4_hasRoom 0 = .ok (.aload_n 0, 1) := by decide +kernel
theorem dX4_hasRoom_1 : decode cX4_hasRoom 1 = .ok (.getfield 15, 3) := by decide +kernel
theorem dX4_hasRoom_4 : decode cX4_hasRoom 4 = .ok (.sipush 380, 3) := by decide +kernel
theorem dX4_hasRoom_7 : decode cX4_hasRoom 7 = .ok (.if_icmp .gt 7, 3) := by decide +kernel
theorem dX4_hasRoom_10 : decode cX4_hasRoom 10 = .ok (.iconst 1, 1) := by decide +kernel
theorem dX4_hasRoom_11 : decode cX4_hasRoom 11 = .ok (.goto 4, 3) := by decide +kernel
theorem dX4_hasRoom_14 : decode cX4_hasRoom 14 = .ok (.iconst 0, 1) := by decide +kernel
theorem dX4_hasRoom_15 : decode cX4_hasRoom 15 = .ok (.ireturn, 1) := by decide +kernel
theorem dX4_append_0 : decode cX4_append 0 = .ok (.bipush 24, 2) := by decide +kernel
theorem dX4_append_2 : decode cX4_append 2 = .ok (.istore_n 2, 1) := by decide +kernel
theorem dX4_append_3 : decode cX4_append 3 = .ok (.iload_n 2, 1) := by decide +kernel
theorem dX4_append_4 : decode cX4_append 4 = .ok (.ifCond .lt 44, 3) := by decide +kernel
theorem dX4_append_7 : decode cX4_append 7 = .ok (.aload_n 0, 1) := by decide +kernel
theorem dX4_append_8 : decode cX4_append 8 = .ok (.getfield 15, 3) := by decide +kernel
theorem dX4_append_11 : decode cX4_append 11 = .ok (.aload_n 0, 1) := by decide +kernel
theorem dX4_append_12 : decode cX4_append 12 = .ok (.getfield 9, 3) := by decide +kernel
theorem dX4_append_15 : decode cX4_append 15 = .ok (.arraylength, 1) := by decide +kernel
theorem dX4_append_16 : decode cX4_append 16 = .ok (.if_icmp .ge 32, 3) := by decide +kernel
theorem dX4_append_19 : decode cX4_append 19 = .ok (.aload_n 0, 1) := by decide +kernel
theorem dX4_append_20 : decode cX4_append 20 = .ok (.getfield 9, 3) := by decide +kernel
theorem dX4_append_23 : decode cX4_append 23 = .ok (.aload_n 0, 1) := by decide +kernel
theorem dX4_append_24 : decode cX4_append 24 = .ok (.getfield 15, 3) := by decide +kernel
theorem dX4_append_27 : decode cX4_append 27 = .ok (.iload_n 1, 1) := by decide +kernel
theorem dX4_append_28 : decode cX4_append 28 = .ok (.iload_n 2, 1) := by decide +kernel
theorem dX4_append_29 : decode cX4_append 29 = .ok (.ishr, 1) := by decide +kernel
theorem dX4_append_30 : decode cX4_append 30 = .ok (.i2b, 1) := by decide +kernel
theorem dX4_append_31 : decode cX4_append 31 = .ok (.bastore, 1) := by decide +kernel
theorem dX4_append_32 : decode cX4_append 32 = .ok (.aload_n 0, 1) := by decide +kernel
theorem dX4_append_33 : decode cX4_append 33 = .ok (.dup, 1) := by decide +kernel
theorem dX4_append_34 : decode cX4_append 34 = .ok (.getfield 15, 3) := by decide +kernel
theorem dX4_append_37 : decode cX4_append 37 = .ok (.iconst 1, 1) := by decide +kernel
theorem dX4_append_38 : decode cX4_append 38 = .ok (.iadd, 1) := by decide +kernel
theorem dX4_append_39 : decode cX4_append 39 = .ok (.putfield 15, 3) := by decide +kernel
theorem dX4_append_42 : decode cX4_append 42 = .ok (.iinc 2 (-8), 3) := by decide +kernel
theorem dX4_append_45 : decode cX4_append 45 = .ok (.goto (-42), 3) := by decide +kernel
theorem dX4_append_48 : decode cX4_append 48 = .ok (.return_, 1) := by decide +kernel
theorem dX4_shorten_0 : decode cX4_shorten 0 = .ok (.iload_n 1, 1) := by decide +kernel
theorem dX4_shorten_1 : decode cX4_shorten 1 = .ok (.ifCond .lt 11, 3) := by decide +kernel
theorem dX4_shorten_4 : decode cX4_shorten 4 = .ok (.iload_n 1, 1) := by decide +kernel
theorem dX4_shorten_5 : decode cX4_shorten 5 = .ok (.aload_n 0, 1) := by decide +kernel
theorem dX4_shorten_6 : decode cX4_shorten 6 = .ok (.getfield 15, 3) := by decide +kernel
theorem dX4_shorten_9 : decode cX4_shorten 9 = .ok (.if_icmp .le 5, 3) := by decide +kernel
theorem dX4_shorten_12 : decode cX4_shorten 12 = .ok (.iconst 0, 1) := by decide +kernel
theorem dX4_shorten_13 : decode cX4_shorten 13 = .ok (.ireturn, 1) := by decide +kernel
theorem dX4_shorten_14 : decode cX4_shorten 14 = .ok (.aload_n 0, 1) := by decide +kernel
theorem dX4_shorten_15 : decode cX4_shorten 15 = .ok (.iload_n 1, 1) := by decide +kernel
theorem dX4_shorten_16 : decode cX4_shorten 16 = .ok (.putfield 15, 3) := by decide +kernel
theorem dX4_shorten_19 : decode cX4_shorten 19 = .ok (.iconst 1, 1) := by decide +kernel
theorem dX4_shorten_20 : decode cX4_shorten 20 = .ok (.ireturn, 1) := by decide +kernel
theorem dX4_useUp_0 : decode cX4_useUp 0 = .ok (.aload_n 0, 1) := by decide +kernel
theorem dX4_useUp_1 : decode cX4_useUp 1 = .ok (.aload_n 0, 1) := by decide +kernel
theorem dX4_useUp_2 : decode cX4_useUp 2 = .ok (.getfield 15, 3) := by decide +kernel
theorem dX4_useUp_5 : decode cX4_useUp 5 = .ok (.putfield 19, 3) := by decide +kernel
theorem dX4_useUp_8 : decode cX4_useUp 8 = .ok (.aload_n 0, 1) := by decide +kernel
theorem dX4_useUp_9 : decode cX4_useUp 9 = .ok (.iconst 0, 1) := by decide +kernel
theorem dX4_useUp_10 : decode cX4_useUp 10 = .ok (.putfield 15, 3) := by decide +kernel
theorem dX4_useUp_13 : decode cX4_useUp 13 = .ok (.aload_n 0, 1) := by decide +kernel
theorem dX4_useUp_14 : decode cX4_useUp 14 = .ok (.iconst 0, 1) := by decide +kernel
theorem dX4_useUp_15 : decode cX4_useUp 15 = .ok (.putfield 22, 3) := by decide +kernel
theorem dX4_useUp_18 : decode cX4_useUp 18 = .ok (.aload_n 0, 1) := by decide +kernel
theorem dX4_useUp_19 : decode cX4_useUp 19 = .ok (.iconst 0, 1) := by decide +kernel
theorem dX4_useUp_20 : decode cX4_useUp 20 = .ok (.putfield 25, 3) := by decide +kernel
theorem dX4_useUp_23 : decode cX4_useUp 23 = .ok (.return_, 1) := by decide +kernel
theorem dX4_next_0 : decode cX4_next 0 = .ok (.aload_n 0, 1) := by decide +kernel
theorem dX4_next_1 : decode cX4_next 1 = .ok (.aload_n 0, 1) := by decide +kernel
theorem dX4_next_2 : decode cX4_next 2 = .ok (.getfield 25, 3) := by decide +kernel
theorem dX4_next_5 : decode cX4_next 5 = .ok (.putfield 22, 3) := by decide +kernel
theorem dX4_next_8 : decode cX4_next 8 = .ok (.aload_n 0, 1) := by decide +kernel
theorem dX4_next_9 : decode cX4_next 9 = .ok (.getfield 22, 3) := by decide +kernel
theorem dX4_next_12 : decode cX4_next 12 = .ok (.aload_n 0, 1) := by decide +kernel
theorem dX4_next_13 : decode cX4_next 13 = .ok (.getfield 19, 3) := by decide +kernel
theorem dX4_next_16 : decode cX4_next 16 = .ok (.if_icmp .ge 29, 3) := by decide +kernel
theorem dX4_next_19 : decode cX4_next 19 = .ok (.aload_n 0, 1) := by decide +kernel
theorem dX4_next_20 : decode cX4_next 20 = .ok (.aload_n 0, 1) := by decide +kernel
theorem dX4_next_21 : decode cX4_next 21 = .ok (.getfield 22, 3) := by decide +kernel
theorem dX4_next_24 : decode cX4_next 24 = .ok (.invokevirtual 28, 3) := by decide +kernel
theorem dX4_next_27 : decode cX4_next 27 = .ok (.bipush 32, 2) := by decide +kernel
theorem dX4_next_29 : decode cX4_next 29 = .ok (.if_icmp .ne 16, 3) := by decide +kernel
theorem dX4_next_32 : decode cX4_next 32 = .ok (.aload_n 0, 1) := by decide +kernel
theorem dX4_next_33 : decode cX4_next 33 = .ok (.dup, 1) := by decide +kernel
theorem dX4_next_34 : decode cX4_next 34 = .ok (.getfield 22, 3) := by decide +kernel
theorem dX4_next_37 : decode cX4_next 37 = .ok (.iconst 1, 1) := by decide +kernel
theorem dX4_next_38 : decode cX4_next 38 = .ok (.iadd, 1) := by decide +kernel
theorem dX4_next_39 : decode cX4_next 39 = .ok (.putfield 22, 3) := by decide +kernel
theorem dX4_next_42 : decode cX4_next 42 = .ok (.goto (-34), 3) := by decide +kernel
theorem dX4_next_45 : decode cX4_next 45 = .ok (.aload_n 0, 1) := by decide +kernel
theorem dX4_next_46 : decode cX4_next 46 = .ok (.aload_n 0, 1) := by decide +kernel
theorem dX4_next_47 : decode cX4_next 47 = .ok (.getfield 22, 3) := by decide +kernel
theorem dX4_next_50 : decode cX4_next 50 = .ok (.putfield 25, 3) := by decide +kernel
theorem dX4_next_53 : decode cX4_next 53 = .ok (.aload_n 0, 1) := by decide +kernel
theorem dX4_next_54 : decode cX4_next 54 = .ok (.getfield 25, 3) := by decide +kernel
theorem dX4_next_57 : decode cX4_next 57 = .ok (.aload_n 0, 1) := by decide +kernel
theorem dX4_next_58 : decode cX4_next 58 = .ok (.getfield 19, 3) := by decide +kernel
theorem dX4_next_61 : decode cX4_next 61 = .ok (.if_icmp .ge 27, 3) := by decide +kernel
theorem dX4_next_64 : decode cX4_next 64 = .ok (.aload_n 0, 1) := by decide +kernel
theorem dX4_next_65 : decode cX4_next 65 = .ok (.aload_n 0, 1) := by decide +kernel
theorem dX4_next_66 : decode cX4_next 66 = .ok (.getfield 25, 3) := by decide +kernel
theorem dX4_next_69 : decode cX4_next 69 = .ok (.invokevirtual 32, 3) := by decide +kernel
theorem dX4_next_72 : decode cX4_next 72 = .ok (.ifCond .eq 16, 3) := by decide +kernel
theorem dX4_next_75 : decode cX4_next 75 = .ok (.aload_n 0, 1) := by decide +kernel
theorem dX4_next_76 : decode cX4_next 76 = .ok (.dup, 1) := by decide +kernel
theorem dX4_next_77 : decode cX4_next 77 = .ok (.getfield 25, 3) := by decide +kernel
theorem dX4_next_80 : decode cX4_next 80 = .ok (.iconst 1, 1) := by decide +kernel
theorem dX4_next_81 : decode cX4_next 81 = .ok (.iadd, 1) := by decide +kernel
theorem dX4_next_82 : decode cX4_next 82 = .ok (.putfield 25, 3) := by decide +kernel
theorem dX4_next_85 : decode cX4_next 85 = .ok (.goto (-32), 3) := by decide +kernel
theorem dX4_next_88 : decode cX4_next 88 = .ok (.aload_n 0, 1) := by decide +kernel
theorem dX4_next_89 : decode cX4_next 89 = .ok (.getfield 25, 3) := by decide +kernel
theorem dX4_next_92 : decode cX4_next 92 = .ok (.aload_n 0, 1) := by decide +kernel
theorem dX4_next_93 : decode cX4_next 93 = .ok (.getfield 22, 3) := by decide +kernel
theorem dX4_next_96 : decode cX4_next 96 = .ok (.if_icmp .ne 24, 3) := by decide +kernel
theorem dX4_next_99 : decode cX4_next 99 = .ok (.aload_n 0, 1) := by decide +kernel
theorem dX4_next_100 : decode cX4_next 100 = .ok (.getfield 22, 3) := by decide +kernel
theorem dX4_next_103 : decode cX4_next 103 = .ok (.aload_n 0, 1) := by decide +kernel
theorem dX4_next_104 : decode cX4_next 104 = .ok (.getfield 19, 3) := by decide +kernel
theorem dX4_next_107 : decode cX4_next 107 = .ok (.if_icmp .ge 13, 3) := by decide +kernel
theorem dX4_next_110 : decode cX4_next 110 = .ok (.aload_n 0, 1) := by decide +kernel
theorem dX4_next_111 : decode cX4_next 111 = .ok (.dup, 1) := by decide +kernel
theorem dX4_next_112 : decode cX4_next 112 = .ok (.getfield 25, 3) := by decide +kernel
theorem dX4_next_115 : decode cX4_next 115 = .ok (.iconst 1, 1) := by decide +kernel
theorem dX4_next_116 : decode cX4_next 116 = .ok (.iadd, 1) := by decide +kernel
theorem dX4_next_117 : decode cX4_next 117 = .ok (.putfield 25, 3) := by decide +kernel
theorem dX4_next_120 : decode cX4_next 120 = .ok (.aload_n 0, 1) := by decide +kernel
theorem dX4_next_121 : decode cX4_next 121 = .ok (.getfield 22, 3) := by decide +kernel
theorem dX4_next_124 : decode cX4_next 124 = .ok (.aload_n 0, 1) := by decide +kernel
theorem dX4_next_125 : decode cX4_next 125 = .ok (.getfield 19, 3) := by decide +kernel
theorem dX4_next_128 : decode cX4_next 128 = .ok (.if_icmp .ge 7, 3) := by decide +kernel
theorem dX4_next_131 : decode cX4_next 131 = .ok (.iconst 1, 1) := by decide +kernel
theorem dX4_next_132 : decode cX4_next 132 = .ok (.goto 4, 3) := by decide +kernel
theorem dX4_next_135 : decode cX4_next 135 = .ok (.iconst 0, 1) := by decide +kernel
theorem dX4_next_136 : decode cX4_next 136 = .ok (.ireturn, 1) := by decide +kernel
theorem dX4_isWord_0 : decode cX4_isWord 0 = .ok (.aload_n 0, 1) := by decide +kernel
theorem dX4_isWord_1 : decode cX4_isWord 1 = .ok (.aload_n 0, 1) := by decide +kernel
theorem dX4_isWord_2 : decode cX4_isWord 2 = .ok (.getfield 22, 3) := by decide +kernel
theorem dX4_isWord_5 : decode cX4_isWord 5 = .ok (.invokevirtual 32, 3) := by decide +kernel
theorem dX4_isWord_8 : decode cX4_isWord 8 = .ok (.ireturn, 1) := by decide +kernel
theorem dX4_isStop_0 : decode cX4_isStop 0 = .ok (.aload_n 0, 1) := by decide +kernel
theorem dX4_isStop_1 : decode cX4_isStop 1 = .ok (.aload_n 0, 1) := by decide +kernel
theorem dX4_isStop_2 : decode cX4_isStop 2 = .ok (.getfield 22, 3) := by decide +kernel
theorem dX4_isStop_5 : decode cX4_isStop 5 = .ok (.invokevirtual 28, 3) := by decide +kernel
theorem dX4_isStop_8 : decode cX4_isStop 8 = .ok (.bipush 46, 2) := by decide +kernel
theorem dX4_isStop_10 : decode cX4_isStop 10 = .ok (.if_icmp .ne 7, 3) := by decide +kernel
theorem dX4_isStop_13 : decode cX4_isStop 13 = .ok (.iconst 1, 1) := by decide +kernel
theorem dX4_isStop_14 : decode cX4_isStop 14 = .ok (.goto 4, 3) := by decide +kernel
theorem dX4_isStop_17 : decode cX4_isStop 17 = .ok (.iconst 0, 1) := by decide +kernel
theorem dX4_isStop_18 : decode cX4_isStop 18 = .ok (.ireturn, 1) := by decide +kernel
theorem dX4_codeOfThing_0 : decode cX4_codeOfThing 0 = .ok (.aload_n 0, 1) := by decide +kernel
theorem dX4_codeOfThing_1 : decode cX4_codeOfThing 1 = .ok (.invokevirtual 36, 3) := by decide +kernel
theorem dX4_codeOfThing_4 : decode cX4_codeOfThing 4 = .ok (.ifCond .eq 17, 3) := by decide +kernel
theorem dX4_codeOfThing_7 : decode cX4_codeOfThing 7 = .ok (.aload_n 0, 1) := by decide +kernel
theorem dX4_codeOfThing_8 : decode cX4_codeOfThing 8 = .ok (.getfield 25, 3) := by decide +kernel
theorem dX4_codeOfThing_11 : decode cX4_codeOfThing 11 = .ok (.aload_n 0, 1) := by decide +kernel
theorem dX4_codeOfThing_12 : decode cX4_codeOfThing 12 = .ok (.getfield 22, 3) := by decide +kernel
theorem dX4_codeOfThing_15 : decode cX4_codeOfThing 15 = .ok (.isub, 1) := by decide +kernel
theorem dX4_codeOfThing_16 : decode cX4_codeOfThing 16 = .ok (.bipush 12, 2) := by decide +kernel
theorem dX4_codeOfThing_18 : decode cX4_codeOfThing 18 = .ok (.if_icmp .le 5, 3) := by decide +kernel
theorem dX4_codeOfThing_21 : decode cX4_codeOfThing 21 = .ok (.lconst 0, 1) := by decide +kernel
theorem dX4_codeOfThing_22 : decode cX4_codeOfThing 22 = .ok (.lreturn, 1) := by decide +kernel
theorem dX4_codeOfThing_23 : decode cX4_codeOfThing 23 = .ok (.lconst 0, 1) := by decide +kernel
theorem dX4_codeOfThing_24 : decode cX4_codeOfThing 24 = .ok (.lstore_n 1, 1) := by decide +kernel
theorem dX4_codeOfThing_25 : decode cX4_codeOfThing 25 = .ok (.aload_n 0, 1) := by decide +kernel
theorem dX4_codeOfThing_26 : decode cX4_codeOfThing 26 = .ok (.getfield 22, 3) := by decide +kernel
theorem dX4_codeOfThing_29 : decode cX4_codeOfThing 29 = .ok (.istore_n 3, 1) := by decide +kernel
theorem dX4_codeOfThing_30 : decode cX4_codeOfThing 30 = .ok (.iload_n 3, 1) := by decide +kernel
theorem dX4_codeOfThing_31 : decode cX4_codeOfThing 31 = .ok (.aload_n 0, 1) := by decide +kernel
theorem dX4_codeOfThing_32 : decode cX4_codeOfThing 32 = .ok (.getfield 25, 3) := by decide +kernel
theorem dX4_codeOfThing_35 : decode cX4_codeOfThing 35 = .ok (.if_icmp .ge 25, 3) := by decide +kernel
theorem dX4_codeOfThing_38 : decode cX4_codeOfThing 38 = .ok (.lload_n 1, 1) := by decide +kernel
theorem dX4_codeOfThing_39 : decode cX4_codeOfThing 39 = .ok (.iconst 5, 1) := by decide +kernel
theorem dX4_codeOfThing_40 : decode cX4_codeOfThing 40 = .ok (.lshl, 1) := by decide +kernel
theorem dX4_codeOfThing_41 : decode cX4_codeOfThing 41 = .ok (.aload_n 0, 1) := by decide +kernel
theorem dX4_codeOfThing_42 : decode cX4_codeOfThing 42 = .ok (.iload_n 3, 1) := by decide +kernel
theorem dX4_codeOfThing_43 : decode cX4_codeOfThing 43 = .ok (.invokevirtual 28, 3) := by decide +kernel
theorem dX4_codeOfThing_46 : decode cX4_codeOfThing 46 = .ok (.bipush 97, 2) := by decide +kernel
theorem dX4_codeOfThing_48 : decode cX4_codeOfThing 48 = .ok (.isub, 1) := by decide +kernel
theorem dX4_codeOfThing_49 : decode cX4_codeOfThing 49 = .ok (.iconst 1, 1) := by decide +kernel
theorem dX4_codeOfThing_50 : decode cX4_codeOfThing 50 = .ok (.iadd, 1) := by decide +kernel
theorem dX4_codeOfThing_51 : decode cX4_codeOfThing 51 = .ok (.i2l, 1) := by decide +kernel
theorem dX4_codeOfThing_52 : decode cX4_codeOfThing 52 = .ok (.ladd, 1) := by decide +kernel
theorem dX4_codeOfThing_53 : decode cX4_codeOfThing 53 = .ok (.lstore_n 1, 1) := by decide +kernel
theorem dX4_codeOfThing_54 : decode cX4_codeOfThing 54 = .ok (.iinc 3 1, 3) := by decide +kernel
theorem dX4_codeOfThing_57 : decode cX4_codeOfThing 57 = .ok (.goto (-27), 3) := by decide +kernel
theorem dX4_codeOfThing_60 : decode cX4_codeOfThing 60 = .ok (.lload_n 1, 1) := by decide +kernel
theorem dX4_codeOfThing_61 : decode cX4_codeOfThing 61 = .ok (.lreturn, 1) := by decide +kernel
theorem dX4_isLetterAt_0 : decode cX4_isLetterAt 0 = .ok (.aload_n 0, 1) := by decide +kernel
theorem dX4_isLetterAt_1 : decode cX4_isLetterAt 1 = .ok (.iload_n 1, 1) := by decide +kernel
theorem dX4_isLetterAt_2 : decode cX4_isLetterAt 2 = .ok (.invokevirtual 28, 3) := by decide +kernel
theorem dX4_isLetterAt_5 : decode cX4_isLetterAt 5 = .ok (.istore_n 2, 1) := by decide +kernel
theorem dX4_isLetterAt_6 : decode cX4_isLetterAt 6 = .ok (.iload_n 2, 1) := by decide +kernel
theorem dX4_isLetterAt_7 : decode cX4_isLetterAt 7 = .ok (.bipush 97, 2) := by decide +kernel
theorem dX4_isLetterAt_9 : decode cX4_isLetterAt 9 = .ok (.if_icmp .lt 13, 3) := by decide +kernel
theorem dX4_isLetterAt_12 : decode cX4_isLetterAt 12 = .ok (.iload_n 2, 1) := by decide +kernel
theorem dX4_isLetterAt_13 : decode cX4_isLetterAt 13 = .ok (.bipush 122, 2) := by decide +kernel
theorem dX4_isLetterAt_15 : decode cX4_isLetterAt 15 = .ok (.if_icmp .gt 7, 3) := by decide +kernel
theorem dX4_isLetterAt_18 : decode cX4_isLetterAt 18 = .ok (.iconst 1, 1) := by decide +kernel
theorem dX4_isLetterAt_19 : decode cX4_isLetterAt 19 = .ok (.goto 4, 3) := by decide +kernel
theorem dX4_isLetterAt_22 : decode cX4_isLetterAt 22 = .ok (.iconst 0, 1) := by decide +kernel
theorem dX4_isLetterAt_23 : decode cX4_isLetterAt 23 = .ok (.ireturn, 1) := by decide +kernel
theorem dX4_byteAt_0 : decode cX4_byteAt 0 = .ok (.iload_n 1, 1) := by decide +kernel
theorem dX4_byteAt_1 : decode cX4_byteAt 1 = .ok (.ifCond .lt 33, 3) := by decide +kernel
theorem dX4_byteAt_4 : decode cX4_byteAt 4 = .ok (.iload_n 1, 1) := by decide +kernel
theorem dX4_byteAt_5 : decode cX4_byteAt 5 = .ok (.aload_n 0, 1) := by decide +kernel
theorem dX4_byteAt_6 : decode cX4_byteAt 6 = .ok (.getfield 19, 3) := by decide +kernel
theorem dX4_byteAt_9 : decode cX4_byteAt 9 = .ok (.if_icmp .ge 25, 3) := by decide +kernel
theorem dX4_byteAt_12 : decode cX4_byteAt 12 = .ok (.iload_n 1, 1) := by decide +kernel
theorem dX4_byteAt_13 : decode cX4_byteAt 13 = .ok (.aload_n 0, 1) := by decide +kernel
theorem dX4_byteAt_14 : decode cX4_byteAt 14 = .ok (.getfield 9, 3) := by decide +kernel
theorem dX4_byteAt_17 : decode cX4_byteAt 17 = .ok (.arraylength, 1) := by decide +kernel
theorem dX4_byteAt_18 : decode cX4_byteAt 18 = .ok (.if_icmp .ge 16, 3) := by decide +kernel
theorem dX4_byteAt_21 : decode cX4_byteAt 21 = .ok (.aload_n 0, 1) := by decide +kernel
theorem dX4_byteAt_22 : decode cX4_byteAt 22 = .ok (.getfield 9, 3) := by decide +kernel
theorem dX4_byteAt_25 : decode cX4_byteAt 25 = .ok (.iload_n 1, 1) := by decide +kernel
theorem dX4_byteAt_26 : decode cX4_byteAt 26 = .ok (.baload, 1) := by decide +kernel
theorem dX4_byteAt_27 : decode cX4_byteAt 27 = .ok (.sipush 255, 3) := by decide +kernel
theorem dX4_byteAt_30 : decode cX4_byteAt 30 = .ok (.iand, 1) := by decide +kernel
theorem dX4_byteAt_31 : decode cX4_byteAt 31 = .ok (.goto 4, 3) := by decide +kernel
theorem dX4_byteAt_34 : decode cX4_byteAt 34 = .ok (.iconst (-1), 1) := by decide +kernel
theorem dX4_byteAt_35 : decode cX4_byteAt 35 = .ok (.ireturn, 1) := by decide +kernel
theorem dX5_init_0 : decode cX5_init 0 = .ok (.aload_n 0, 1) := by decide +kernel
theorem dX5_init_1 : decode cX5_init 1 = .ok (.invokespecial 3, 3) := by decide +kernel
theorem dX5_init_4 : decode cX5_init 4 = .ok (.aload_n 0, 1) := by decide +kernel
theorem dX5_init_5 : decode cX5_init 5 = .ok (.bipush 60, 2) := by decide +kernel
theorem dX5_init_7 : decode cX5_init 7 = .ok (.newarray .long, 2) := by decide +kernel
theorem dX5_init_9 : decode cX5_init 9 = .ok (.putfield 9, 3) := by decide +kernel
theorem dX5_init_12 : decode cX5_init 12 = .ok (.aload_n 0, 1) := by decide +kernel
theorem dX5_init_13 : decode cX5_init 13 = .ok (.bipush 60, 2) := by decide +kernel
theorem dX5_init_15 : decode cX5_init 15 = .ok (.newarray .int, 2) := by decide +kernel
theorem dX5_init_17 : decode cX5_init 17 = .ok (.putfield 15, 3) := by decide +kernel
theorem dX5_init_20 : decode cX5_init 20 = .ok (.aload_n 0, 1) := by decide +kernel
theorem dX5_init_21 : decode cX5_init 21 = .ok (.iconst 0, 1) := by decide +kernel
theorem dX5_init_22 : decode cX5_init 22 = .ok (.putfield 19, 3) := by decide +kernel
theorem dX5_init_25 : decode cX5_init 25 = .ok (.aload_n 0, 1) := by decide +kernel
theorem dX5_init_26 : decode cX5_init 26 = .ok (.iconst 0, 1) := by decide +kernel
theorem dX5_init_27 : decode cX5_init 27 = .ok (.putfield 23, 3) := by decide +kernel
theorem dX5_init_30 : decode cX5_init 30 = .ok (.aload_n 0, 1) := by decide +kernel
theorem dX5_init_31 : decode cX5_init 31 = .ok (.iconst 0, 1) := by decide +kernel
theorem dX5_init_32 : decode cX5_init 32 = .ok (.putfield 26, 3) := by decide +kernel
theorem dX5_init_35 : decode cX5_init 35 = .ok (.return_, 1) := by decide +kernel
theorem dX5_clear_0 : decode cX5_clear 0 = .ok (.aload_n 0, 1) := by decide +kernel
theorem dX5_clear_1 : decode cX5_clear 1 = .ok (.iconst 0, 1) := by decide +kernel
theorem dX5_clear_2 : decode cX5_clear 2 = .ok (.putfield 19, 3) := by decide +kernel
theorem dX5_clear_5 : decode cX5_clear 5 = .ok (.aload_n 0, 1) := by decide +kernel
theorem dX5_clear_6 : decode cX5_clear 6 = .ok (.iconst 0, 1) := by decide +kernel
theorem dX5_clear_7 : decode cX5_clear 7 = .ok (.putfield 23, 3) := by decide +kernel
theorem dX5_clear_10 : decode cX5_clear 10 = .ok (.aload_n 0, 1) := by decide +kernel
theorem dX5_clear_11 : decode cX5_clear 11 = .ok (.iconst 0, 1) := by decide +kernel
theorem dX5_clear_12 : decode cX5_clear 12 = .ok (.putfield 26, 3) := by decide +kernel
theorem dX5_clear_15 : decode cX5_clear 15 = .ok (.return_, 1) := by decide +kernel
theorem dX5_beginPart_0 : decode cX5_beginPart 0 = .ok (.aload_n 0, 1) := by decide +kernel
theorem dX5_beginPart_1 : decode cX5_beginPart 1 = .ok (.dup, 1) := by decide +kernel
theorem dX5_beginPart_2 : decode cX5_beginPart 2 = .ok (.getfield 23, 3) := by decide +kernel
theorem dX5_beginPart_5 : decode cX5_beginPart 5 = .ok (.iconst 1, 1) := by decide +kernel
theorem dX5_beginPart_6 : decode cX5_beginPart 6 = .ok (.iadd, 1) := by decide +kernel
theorem dX5_beginPart_7 : decode cX5_beginPart 7 = .ok (.putfield 23, 3) := by decide +kernel
theorem dX5_beginPart_10 : decode cX5_beginPart 10 = .ok (.return_, 1) := by decide +kernel
theorem dX5_add_0 : decode cX5_add 0 = .ok (.aload_n 0, 1) := by decide +kernel
theorem dX5_add_1 : decode cX5_add 1 = .ok (.getfield 19, 3) := by decide +kernel
theorem dX5_add_4 : decode cX5_add 4 = .ok (.aload_n 0, 1) := by decide +kernel
theorem dX5_add_5 : decode cX5_add 5 = .ok (.getfield 9, 3) := by decide +kernel
theorem dX5_add_8 : decode cX5_add 8 = .ok (.arraylength, 1) := by decide +kernel
theorem dX5_add_9 : decode cX5_add 9 = .ok (.if_icmp .ge 15, 3) := by decide +kernel
theorem dX5_add_12 : decode cX5_add 12 = .ok (.aload_n 0, 1) := by decide +kernel
theorem dX5_add_13 : decode cX5_add 13 = .ok (.getfield 19, 3) := by decide +kernel
theorem dX5_add_16 : decode cX5_add 16 = .ok (.aload_n 0, 1) := by decide +kernel
theorem dX5_add_17 : decode cX5_add 17 = .ok (.getfield 15, 3) := by decide +kernel
theorem dX5_add_20 : decode cX5_add 20 = .ok (.arraylength, 1) := by decide +kernel
theorem dX5_add_21 : decode cX5_add 21 = .ok (.if_icmp .lt 4, 3) := by decide +kernel
theorem dX5_add_24 : decode cX5_add 24 = .ok (.return_, 1) := by decide +kernel
theorem dX5_add_25 : decode cX5_add 25 = .ok (.aload_n 0, 1) := by decide +kernel
theorem dX5_add_26 : decode cX5_add 26 = .ok (.getfield 9, 3) := by decide +kernel
theorem dX5_add_29 : decode cX5_add 29 = .ok (.aload_n 0, 1) := by decide +kernel
theorem dX5_add_30 : decode cX5_add 30 = .ok (.getfield 19, 3) := by decide +kernel
theorem dX5_add_33 : decode cX5_add 33 = .ok (.lload_n 1, 1) := by decide +kernel
theorem dX5_add_34 : decode cX5_add 34 = .ok (.lastore, 1) := by decide +kernel
theorem dX5_add_35 : decode cX5_add 35 = .ok (.aload_n 0, 1) := by decide +kernel
theorem dX5_add_36 : decode cX5_add 36 = .ok (.getfield 15, 3) := by decide +kernel
theorem dX5_add_39 : decode cX5_add 39 = .ok (.aload_n 0, 1) := by decide +kernel
theorem dX5_add_40 : decode cX5_add 40 = .ok (.getfield 19, 3) := by decide +kernel
theorem dX5_add_43 : decode cX5_add 43 = .ok (.aload_n 0, 1) := by decide +kernel
theorem dX5_add_44 : decode cX5_add 44 = .ok (.getfield 23, 3) := by decide +kernel
theorem dX5_add_47 : decode cX5_add 47 = .ok (.iconst 1, 1) := by decide +kernel
theorem dX5_add_48 : decode cX5_add 48 = .ok (.isub, 1) := by decide +kernel
theorem dX5_add_49 : decode cX5_add 49 = .ok (.iastore, 1) := by decide +kernel
theorem dX5_add_50 : decode cX5_add 50 = .ok (.iload_n 3, 1) := by decide +kernel
theorem dX5_add_51 : decode cX5_add 51 = .ok (.ifCond .eq 18, 3) := by decide +kernel
theorem dX5_add_54 : decode cX5_add 54 = .ok (.aload_n 0, 1) := by decide +kernel
theorem dX5_add_55 : decode cX5_add 55 = .ok (.dup, 1) := by decide +kernel
theorem dX5_add_56 : decode cX5_add 56 = .ok (.getfield 26, 3) := by decide +kernel
theorem dX5_add_59 : decode cX5_add 59 = .ok (.iconst 1, 1) := by decide +kernel
theorem dX5_add_60 : decode cX5_add 60 = .ok (.aload_n 0, 1) := by decide +kernel
theorem dX5_add_61 : decode cX5_add 61 = .ok (.getfield 19, 3) := by decide +kernel
theorem dX5_add_64 : decode cX5_add 64 = .ok (.ishl, 1) := by decide +kernel
theorem dX5_add_65 : decode cX5_add 65 = .ok (.ior, 1) := by decide +kernel
theorem dX5_add_66 : decode cX5_add 66 = .ok (.putfield 26, 3) := by decide +kernel
theorem dX5_add_69 : decode cX5_add 69 = .ok (.aload_n 0, 1) := by decide +kernel
theorem dX5_add_70 : decode cX5_add 70 = .ok (.dup, 1) := by decide +kernel
theorem dX5_add_71 : decode cX5_add 71 = .ok (.getfield 19, 3) := by decide +kernel
theorem dX5_add_74 : decode cX5_add 74 = .ok (.iconst 1, 1) := by decide +kernel
theorem dX5_add_75 : decode cX5_add 75 = .ok (.iadd, 1) := by decide +kernel
theorem dX5_add_76 : decode cX5_add 76 = .ok (.putfield 19, 3) := by decide +kernel
theorem dX5_add_79 : decode cX5_add 79 = .ok (.return_, 1) := by decide +kernel
theorem dX5_codesOf_0 : decode cX5_codesOf 0 = .ok (.iconst 0, 1) := by decide +kernel
theorem dX5_codesOf_1 : decode cX5_codesOf 1 = .ok (.istore_n 2, 1) := by decide +kernel
theorem dX5_codesOf_2 : decode cX5_codesOf 2 = .ok (.iload_n 2, 1) := by decide +kernel
theorem dX5_codesOf_3 : decode cX5_codesOf 3 = .ok (.aload_n 0, 1) := by decide +kernel
theorem dX5_codesOf_4 : decode cX5_codesOf 4 = .ok (.getfield 19, 3) := by decide +kernel
theorem dX5_codesOf_7 : decode cX5_codesOf 7 = .ok (.if_icmp .ge 19, 3) := by decide +kernel
theorem dX5_codesOf_10 : decode cX5_codesOf 10 = .ok (.aload_n 0, 1) := by decide +kernel
theorem dX5_codesOf_11 : decode cX5_codesOf 11 = .ok (.getfield 15, 3) := by decide +kernel
theorem dX5_codesOf_14 : decode cX5_codesOf 14 = .ok (.iload_n 2, 1) := by decide +kernel
theorem dX5_codesOf_15 : decode cX5_codesOf 15 = .ok (.iaload, 1) := by decide +kernel
theorem dX5_codesOf_16 : decode cX5_codesOf 16 = .ok (.iload_n 1, 1) := by decide +kernel
theorem dX5_codesOf_17 : decode cX5_codesOf 17 = .ok (.if_icmp .eq 9, 3) := by decide +kernel
theorem dX5_codesOf_20 : decode cX5_codesOf 20 = .ok (.iinc 2 1, 3) := by decide +kernel
theorem dX5_codesOf_23 : decode cX5_codesOf 23 = .ok (.goto (-21), 3) := by decide +kernel
theorem dX5_codesOf_26 : decode cX5_codesOf 26 = .ok (.iload_n 2, 1) := by decide +kernel
theorem dX5_codesOf_27 : decode cX5_codesOf 27 = .ok (.istore_n 3, 1) := by decide +kernel
theorem dX5_codesOf_28 : decode cX5_codesOf 28 = .ok (.iload_n 3, 1) := by decide +kernel
theorem dX5_codesOf_29 : decode cX5_codesOf 29 = .ok (.aload_n 0, 1) := by decide +kernel
theorem dX5_codesOf_30 : decode cX5_codesOf 30 = .ok (.getfield 19, 3) := by decide +kernel
theorem dX5_codesOf_33 : decode cX5_codesOf 33 = .ok (.if_icmp .ge 19, 3) := by decide +kernel
theorem dX5_codesOf_36 : decode cX5_codesOf 36 = .ok (.aload_n 0, 1) := by decide +kernel
theorem dX5_codesOf_37 : decode cX5_codesOf 37 = .ok (.getfield 15, 3) := by decide +kernel
theorem dX5_codesOf_40 : decode cX5_codesOf 40 = .ok (.iload_n 3, 1) := by decide +kernel
theorem dX5_codesOf_41 : decode cX5_codesOf 41 = .ok (.iaload, 1) := by decide +kernel
theorem dX5_codesOf_42 : decode cX5_codesOf 42 = .ok (.iload_n 1, 1) := by decide +kernel
theorem dX5_codesOf_43 : decode cX5_codesOf 43 = .ok (.if_icmp .ne 9, 3) := by decide +kernel
theorem dX5_codesOf_46 : decode cX5_codesOf 46 = .ok (.iinc 3 1, 3) := by decide +kernel
theorem dX5_codesOf_49 : decode cX5_codesOf 49 = .ok (.goto (-21), 3) := by decide +kernel
theorem dX5_codesOf_52 : decode cX5_codesOf 52 = .ok (.aload_n 0, 1) := by decide +kernel
theorem dX5_codesOf_53 : decode cX5_codesOf 53 = .ok (.getfield 9, 3) := by decide +kernel
theorem dX5_codesOf_56 : decode cX5_codesOf 56 = .ok (.iload_n 2, 1) := by decide +kernel
theorem dX5_codesOf_57 : decode cX5_codesOf 57 = .ok (.iload_n 3, 1) := by decide +kernel
theorem dX5_codesOf_58 : decode cX5_codesOf 58 = .ok (.invokestatic 29, 3) := by decide +kernel
theorem dX5_codesOf_61 : decode cX5_codesOf 61 = .ok (.areturn, 1) := by decide +kernel
theorem dX6_init_0 : decode cX6_init 0 = .ok (.aload_n 0, 1) := by decide +kernel
theorem dX6_init_1 : decode cX6_init 1 = .ok (.invokespecial 1, 3) := by decide +kernel
theorem dX6_init_4 : decode cX6_init 4 = .ok (.aload_n 0, 1) := by decide +kernel
theorem dX6_init_5 : decode cX6_init 5 = .ok (.new 7, 3) := by decide +kernel
theorem dX6_init_8 : decode cX6_init 8 = .ok (.dup, 1) := by decide +kernel
theorem dX6_init_9 : decode cX6_init 9 = .ok (.invokespecial 9, 3) := by decide +kernel
theorem dX6_init_12 : decode cX6_init 12 = .ok (.putfield 10, 3) := by decide +kernel
theorem dX6_init_15 : decode cX6_init 15 = .ok (.aload_n 0, 1) := by decide +kernel
theorem dX6_init_16 : decode cX6_init 16 = .ok (.new 16, 3) := by decide +kernel
theorem dX6_init_19 : decode cX6_init 19 = .ok (.dup, 1) := by decide +kernel
theorem dX6_init_20 : decode cX6_init 20 = .ok (.invokespecial 18, 3) := by decide +kernel
theorem dX6_init_23 : decode cX6_init 23 = .ok (.putfield 19, 3) := by decide +kernel
theorem dX6_init_26 : decode cX6_init 26 = .ok (.aload_n 0, 1) := by decide +kernel
theorem dX6_init_27 : decode cX6_init 27 = .ok (.iconst (-1), 1) := by decide +kernel
theorem dX6_init_28 : decode cX6_init 28 = .ok (.putfield 23, 3) := by decide +kernel
theorem dX6_init_31 : decode cX6_init 31 = .ok (.aload_n 0, 1) := by decide +kernel
theorem dX6_init_32 : decode cX6_init 32 = .ok (.iconst 0, 1) := by decide +kernel
theorem dX6_init_33 : decode cX6_init 33 = .ok (.putfield 27, 3) := by decide +kernel
theorem dX6_init_36 : decode cX6_init 36 = .ok (.aload_n 0, 1) := by decide +kernel
theorem dX6_init_37 : decode cX6_init 37 = .ok (.new 30, 3) := by decide +kernel
theorem dX6_init_40 : decode cX6_init 40 = .ok (.dup, 1) := by decide +kernel
theorem dX6_init_41 : decode cX6_init 41 = .ok (.invokespecial 32, 3) := by decide +kernel
theorem dX6_init_44 : decode cX6_init 44 = .ok (.putfield 33, 3) := by decide +kernel
theorem dX6_init_47 : decode cX6_init 47 = .ok (.aload_n 0, 1) := by decide +kernel
theorem dX6_init_48 : decode cX6_init 48 = .ok (.new 30, 3) := by decide +kernel
theorem dX6_init_51 : decode cX6_init 51 = .ok (.dup, 1) := by decide +kernel
theorem dX6_init_52 : decode cX6_init 52 = .ok (.invokespecial 32, 3) := by decide +kernel
theorem dX6_init_55 : decode cX6_init 55 = .ok (.putfield 37, 3) := by decide +kernel
theorem dX6_init_58 : decode cX6_init 58 = .ok (.aload_n 0, 1) := by decide +kernel
theorem dX6_init_59 : decode cX6_init 59 = .ok (.iconst 4, 1) := by decide +kernel
theorem dX6_init_60 : decode cX6_init 60 = .ok (.newarray .int, 2) := by decide +kernel
theorem dX6_init_62 : decode cX6_init 62 = .ok (.dup, 1) := by decide +kernel
theorem dX6_init_63 : decode cX6_init 63 = .ok (.iconst 0, 1) := by decide +kernel
theorem dX6_init_64 : decode cX6_init 64 = .ok (.iconst 5, 1) := by decide +kernel
theorem dX6_init_65 : decode cX6_init 65 = .ok (.iastore, 1) := by decide +kernel
theorem dX6_init_66 : decode cX6_init 66 = .ok (.dup, 1) := by decide +kernel
theorem dX6_init_67 : decode cX6_init 67 = .ok (.iconst 1, 1) := by decide +kernel
theorem dX6_init_68 : decode cX6_init 68 = .ok (.iconst 5, 1) := by decide +kernel
theorem dX6_init_69 : decode cX6_init 69 = .ok (.iastore, 1) := by decide +kernel
theorem dX6_init_70 : decode cX6_init 70 = .ok (.dup, 1) := by decide +kernel
theorem dX6_init_71 : decode cX6_init 71 = .ok (.iconst 2, 1) := by decide +kernel
theorem dX6_init_72 : decode cX6_init 72 = .ok (.iconst 5, 1) := by decide +kernel
theorem dX6_init_73 : decode cX6_init 73 = .ok (.iastore, 1) := by decide +kernel
theorem dX6_init_74 : decode cX6_init 74 = .ok (.dup, 1) := by decide +kernel
theorem dX6_init_75 : decode cX6_init 75 = .ok (.iconst 3, 1) := by decide +kernel
theorem dX6_init_76 : decode cX6_init 76 = .ok (.iconst 5, 1) := by decide +kernel
theorem dX6_init_77 : decode cX6_init 77 = .ok (.iastore, 1) := by decide +kernel
theorem dX6_init_78 : decode cX6_init 78 = .ok (.putfield 40, 3) := by decide +kernel
theorem dX6_init_81 : decode cX6_init 81 = .ok (.aload_n 0, 1) := by decide +kernel
theorem dX6_init_82 : decode cX6_init 82 = .ok (.bipush 10, 2) := by decide +kernel
theorem dX6_init_84 : decode cX6_init 84 = .ok (.newarray .int, 2) := by decide +kernel
theorem dX6_init_86 : decode cX6_init 86 = .ok (.putfield 44, 3) := by decide +kernel
theorem dX6_init_89 : decode cX6_init 89 = .ok (.aload_n 0, 1) := by decide +kernel
theorem dX6_init_90 : decode cX6_init 90 = .ok (.iconst 0, 1) := by decide +kernel
theorem dX6_init_91 : decode cX6_init 91 = .ok (.putfield 47, 3) := by decide +kernel
theorem dX6_init_94 : decode cX6_init 94 = .ok (.aload_n 0, 1) := by decide +kernel
theorem dX6_init_95 : decode cX6_init 95 = .ok (.sipush 401, 3) := by decide +kernel
theorem dX6_init_98 : decode cX6_init 98 = .ok (.newarray .int, 2) := by decide +kernel
theorem dX6_init_100 : decode cX6_init 100 = .ok (.putfield 50, 3) := by decide +kernel
theorem dX6_init_103 : decode cX6_init 103 = .ok (.aload_n 0, 1) := by decide +kernel
theorem dX6_init_104 : decode cX6_init 104 = .ok (.bipush 61, 2) := by decide +kernel
theorem dX6_init_106 : decode cX6_init 106 = .ok (.newarray .int, 2) := by decide +kernel
theorem dX6_init_108 : decode cX6_init 108 = .ok (.putfield 53, 3) := by decide +kernel
theorem dX6_init_111 : decode cX6_init 111 = .ok (.return_, 1) := by decide +kernel
theorem dX6_feed_0 : decode cX6_feed 0 = .ok (.aload_n 0, 1) := by decide +kernel
theorem dX6_feed_1 : decode cX6_feed 1 = .ok (.getfield 10, 3) := by decide +kernel
theorem dX6_feed_4 : decode cX6_feed 4 = .ok (.invokevirtual 56, 3) := by decide +kernel
theorem dX6_feed_7 : decode cX6_feed 7 = .ok (.ifCond .ne 5, 3) := by decide +kernel
theorem dX6_feed_10 : decode cX6_feed 10 = .ok (.iconst (-1), 1) := by decide +kernel
theorem dX6_feed_11 : decode cX6_feed 11 = .ok (.ireturn, 1) := by decide +kernel
theorem dX6_feed_12 : decode cX6_feed 12 = .ok (.aload_n 0, 1) := by decide +kernel
theorem dX6_feed_13 : decode cX6_feed 13 = .ok (.getfield 10, 3) := by decide +kernel
theorem dX6_feed_16 : decode cX6_feed 16 = .ok (.iload_n 1, 1) := by decide +kernel
theorem dX6_feed_17 : decode cX6_feed 17 = .ok (.invokevirtual 60, 3) := by decide +kernel
theorem dX6_feed_20 : decode cX6_feed 20 = .ok (.aload_n 0, 1) := by decide +kernel
theorem dX6_feed_21 : decode cX6_feed 21 = .ok (.getfield 10, 3) := by decide +kernel
theorem dX6_feed_24 : decode cX6_feed 24 = .ok (.iload_n 2, 1) := by decide +kernel
theorem dX6_feed_25 : decode cX6_feed 25 = .ok (.invokevirtual 60, 3) := by decide +kernel
theorem dX6_feed_28 : decode cX6_feed 28 = .ok (.aload_n 0, 1) := by decide +kernel
theorem dX6_feed_29 : decode cX6_feed 29 = .ok (.getfield 10, 3) := by decide +kernel
theorem dX6_feed_32 : decode cX6_feed 32 = .ok (.iload_n 3, 1) := by decide +kernel
theorem dX6_feed_33 : decode cX6_feed 33 = .ok (.invokevirtual 60, 3) := by decide +kernel
theorem dX6_feed_36 : decode cX6_feed 36 = .ok (.aload_n 0, 1) := by decide +kernel
theorem dX6_feed_37 : decode cX6_feed 37 = .ok (.getfield 10, 3) := by decide +kernel
theorem dX6_feed_40 : decode cX6_feed 40 = .ok (.iload 4, 2) := by decide +kernel
theorem dX6_feed_42 : decode cX6_feed 42 = .ok (.invokevirtual 60, 3) := by decide +kernel
theorem dX6_feed_45 : decode cX6_feed 45 = .ok (.aload_n 0, 1) := by decide +kernel
theorem dX6_feed_46 : decode cX6_feed 46 = .ok (.getfield 10, 3) := by decide +kernel
theorem dX6_feed_49 : decode cX6_feed 49 = .ok (.iload 5, 2) := by decide +kernel
theorem dX6_feed_51 : decode cX6_feed 51 = .ok (.invokevirtual 60, 3) := by decide +kernel
theorem dX6_feed_54 : decode cX6_feed 54 = .ok (.aload_n 0, 1) := by decide +kernel
theorem dX6_feed_55 : decode cX6_feed 55 = .ok (.getfield 10, 3) := by decide +kernel
theorem dX6_feed_58 : decode cX6_feed 58 = .ok (.getfield 64, 3) := by decide +kernel
theorem dX6_feed_61 : decode cX6_feed 61 = .ok (.ireturn, 1) := by decide +kernel
theorem dX6_end_0 : decode cX6_end 0 = .ok (.aload_n 0, 1) := by decide +kernel
theorem dX6_end_1 : decode cX6_end 1 = .ok (.getfield 10, 3) := by decide +kernel
theorem dX6_end_4 : decode cX6_end 4 = .ok (.iload_n 1, 1) := by decide +kernel
theorem dX6_end_5 : decode cX6_end 5 = .ok (.invokevirtual 67, 3) := by decide +kernel
theorem dX6_end_8 : decode cX6_end 8 = .ok (.ireturn, 1) := by decide +kernel
theorem dX6_cause_0 : decode cX6_cause 0 = .ok (.aload_n 0, 1) := by decide +kernel
theorem dX6_cause_1 : decode cX6_cause 1 = .ok (.getfield 10, 3) := by decide +kernel
theorem dX6_cause_4 : decode cX6_cause 4 = .ok (.invokevirtual 71, 3) := by decide +kernel
theorem dX6_cause_7 : decode cX6_cause 7 = .ok (.iload_n 1, 1) := by decide +kernel
theorem dX6_cause_8 : decode cX6_cause 8 = .ok (.iconst (-1), 1) := by decide +kernel
theorem dX6_cause_9 : decode cX6_cause 9 = .ok (.if_icmp .ne 7, 3) := by decide +kernel
theorem dX6_cause_12 : decode cX6_cause 12 = .ok (.aconst_null, 1) := by decide +kernel
theorem dX6_cause_13 : decode cX6_cause 13 = .ok (.goto 8, 3) := by decide +kernel
theorem dX6_cause_16 : decode cX6_cause 16 = .ok (.aload_n 0, 1) := by decide +kernel
theorem dX6_cause_17 : decode cX6_cause 17 = .ok (.iload_n 1, 1) := by decide +kernel
theorem dX6_cause_18 : decode cX6_cause 18 = .ok (.invokevirtual 74, 3) := by decide +kernel
theorem dX6_cause_21 : decode cX6_cause 21 = .ok (.astore 5, 2) := by decide +kernel
theorem dX6_cause_23 : decode cX6_cause 23 = .ok (.iload_n 2, 1) := by decide +kernel
theorem dX6_cause_24 : decode cX6_cause 24 = .ok (.invokestatic 78, 3) := by decide +kernel
theorem dX6_cause_27 : decode cX6_cause 27 = .ok (.iload_n 3, 1) := by decide +kernel
theorem dX6_cause_28 : decode cX6_cause 28 = .ok (.ifCond .lt 9, 3) := by decide +kernel
theorem dX6_cause_31 : decode cX6_cause 31 = .ok (.iload_n 3, 1) := by decide +kernel
theorem dX6_cause_32 : decode cX6_cause 32 = .ok (.bipush 60, 2) := by decide +kernel
theorem dX6_cause_34 : decode cX6_cause 34 = .ok (.if_icmp .le 13, 3) := by decide +kernel
theorem dX6_cause_37 : decode cX6_cause 37 = .ok (.new 81, 3) := by decide +kernel
theorem dX6_cause_40 : decode cX6_cause 40 = .ok (.dup, 1) := by decide +kernel
theorem dX6_cause_41 : decode cX6_cause 41 = .ok (.ldc 83, 2) := by decide +kernel
theorem dX6_cause_43 : decode cX6_cause 43 = .ok (.invokespecial 85, 3) := by decide +kernel
theorem dX6_cause_46 : decode cX6_cause 46 = .ok (.athrow, 1) := by decide +kernel
theorem dX6_cause_47 : decode cX6_cause 47 = .ok (.aload_n 0, 1) := by decide +kernel
theorem dX6_cause_48 : decode cX6_cause 48 = .ok (.invokevirtual 88, 3) := by decide +kernel
theorem dX6_cause_51 : decode cX6_cause 51 = .ok (.astore 6, 2) := by decide +kernel
theorem dX6_cause_53 : decode cX6_cause 53 = .ok (.aload_n 0, 1) := by decide +kernel
theorem dX6_cause_54 : decode cX6_cause 54 = .ok (.getfield 33, 3) := by decide +kernel
theorem dX6_cause_57 : decode cX6_cause 57 = .ok (.invokevirtual 92, 3) := by decide +kernel
theorem dX6_cause_60 : decode cX6_cause 60 = .ok (.bipush 12, 2) := by decide +kernel
theorem dX6_cause_62 : decode cX6_cause 62 = .ok (.if_icmp .lt 13, 3) := by decide +kernel
theorem dX6_cause_65 : decode cX6_cause 65 = .ok (.new 96, 3) := by decide +kernel
theorem dX6_cause_68 : decode cX6_cause 68 = .ok (.dup, 1) := by decide +kernel
theorem dX6_cause_69 : decode cX6_cause 69 = .ok (.ldc 98, 2) := by decide +kernel
theorem dX6_cause_71 : decode cX6_cause 71 = .ok (.invokespecial 100, 3) := by decide +kernel
theorem dX6_cause_74 : decode cX6_cause 74 = .ok (.athrow, 1) := by decide +kernel
theorem dX6_cause_75 : decode cX6_cause 75 = .ok (.aload_n 0, 1) := by decide +kernel
theorem dX6_cause_76 : decode cX6_cause 76 = .ok (.getfield 33, 3) := by decide +kernel
theorem dX6_cause_79 : decode cX6_cause 79 = .ok (.new 101, 3) := by decide +kernel
theorem dX6_cause_82 : decode cX6_cause 82 = .ok (.dup, 1) := by decide +kernel
theorem dX6_cause_83 : decode cX6_cause 83 = .ok (.aload_n 0, 1) := by decide +kernel
theorem dX6_cause_84 : decode cX6_cause 84 = .ok (.getfield 33, 3) := by decide +kernel
theorem dX6_cause_87 : decode cX6_cause 87 = .ok (.invokevirtual 92, 3) := by decide +kernel
theorem dX6_cause_90 : decode cX6_cause 90 = .ok (.aload 5, 2) := by decide +kernel
theorem dX6_cause_92 : decode cX6_cause 92 = .ok (.iload_n 2, 1) := by decide +kernel
theorem dX6_cause_93 : decode cX6_cause 93 = .ok (.iload_n 3, 1) := by decide +kernel
theorem dX6_cause_94 : decode cX6_cause 94 = .ok (.iload 4, 2) := by decide +kernel
theorem dX6_cause_96 : decode cX6_cause 96 = .ok (.aload 6, 2) := by decide +kernel
theorem dX6_cause_98 : decode cX6_cause 98 = .ok (.invokespecial 103, 3) := by decide +kernel
theorem dX6_cause_101 : decode cX6_cause 101 = .ok (.invokevirtual 106, 3) := by decide +kernel
theorem dX6_cause_104 : decode cX6_cause 104 = .ok (.pop, 1) := by decide +kernel
theorem dX6_cause_105 : decode cX6_cause 105 = .ok (.aload_n 0, 1) := by decide +kernel
theorem dX6_cause_106 : decode cX6_cause 106 = .ok (.getfield 33, 3) := by decide +kernel
theorem dX6_cause_109 : decode cX6_cause 109 = .ok (.invokevirtual 92, 3) := by decide +kernel
theorem dX6_cause_112 : decode cX6_cause 112 = .ok (.iconst 1, 1) := by decide +kernel
theorem dX6_cause_113 : decode cX6_cause 113 = .ok (.isub, 1) := by decide +kernel
theorem dX6_cause_114 : decode cX6_cause 114 = .ok (.ireturn, 1) := by decide +kernel
theorem dX6_pattern_0 : decode cX6_pattern 0 = .ok (.aload_n 0, 1) := by decide +kernel
theorem dX6_pattern_1 : decode cX6_pattern 1 = .ok (.getfield 10, 3) := by decide +kernel
theorem dX6_pattern_4 : decode cX6_pattern 4 = .ok (.invokevirtual 71, 3) := by decide +kernel
theorem dX6_pattern_7 : decode cX6_pattern 7 = .ok (.aload_n 0, 1) := by decide +kernel
theorem dX6_pattern_8 : decode cX6_pattern 8 = .ok (.iload_n 1, 1) := by decide +kernel
theorem dX6_pattern_9 : decode cX6_pattern 9 = .ok (.invokevirtual 74, 3) := by decide +kernel
theorem dX6_pattern_12 : decode cX6_pattern 12 = .ok (.astore_n 2, 1) := by decide +kernel
theorem dX6_pattern_13 : decode cX6_pattern 13 = .ok (.aload_n 2, 1) := by decide +kernel
theorem dX6_pattern_14 : decode cX6_pattern 14 = .ok (.aload_n 0, 1) := by decide +kernel
theorem dX6_pattern_15 : decode cX6_pattern 15 = .ok (.invokevirtual 88, 3) := by decide +kernel
theorem dX6_pattern_18 : decode cX6_pattern 18 = .ok (.putfield 110, 3) := by decide +kernel
theorem dX6_pattern_21 : decode cX6_pattern 21 = .ok (.aload_n 0, 1) := by decide +kernel
theorem dX6_pattern_22 : decode cX6_pattern 22 = .ok (.invokevirtual 114, 3) := by decide +kernel
theorem dX6_pattern_25 : decode cX6_pattern 25 = .ok (.ireturn, 1) := by decide +kernel
theorem dX6_letter_0 : decode cX6_letter 0 = .ok (.aload_n 0, 1) := by decide +kernel
theorem dX6_letter_1 : decode cX6_letter 1 = .ok (.getfield 10, 3) := by decide +kernel
theorem dX6_letter_4 : decode cX6_letter 4 = .ok (.invokevirtual 71, 3) := by decide +kernel
theorem dX6_letter_7 : decode cX6_letter 7 = .ok (.iload_n 1, 1) := by decide +kernel
theorem dX6_letter_8 : decode cX6_letter 8 = .ok (.ifCond .lt 9, 3) := by decide +kernel
theorem dX6_letter_11 : decode cX6_letter 11 = .ok (.iload_n 1, 1) := by decide +kernel
theorem dX6_letter_12 : decode cX6_letter 12 = .ok (.bipush 50, 2) := by decide +kernel
theorem dX6_letter_14 : decode cX6_letter 14 = .ok (.if_icmp .lt 13, 3) := by decide +kernel
theorem dX6_letter_17 : decode cX6_letter 17 = .ok (.new 81, 3) := by decide +kernel
theorem dX6_letter_20 : decode cX6_letter 20 = .ok (.dup, 1) := by decide +kernel
theorem dX6_letter_21 : decode cX6_letter 21 = .ok (.ldc 117, 2) := by decide +kernel
theorem dX6_letter_23 : decode cX6_letter 23 = .ok (.invokespecial 85, 3) := by decide +kernel
theorem dX6_letter_26 : decode cX6_letter 26 = .ok (.athrow, 1) := by decide +kernel
theorem dX6_letter_27 : decode cX6_letter 27 = .ok (.aload_n 0, 1) := by decide +kernel
theorem dX6_letter_28 : decode cX6_letter 28 = .ok (.aload_n 0, 1) := by decide +kernel
theorem dX6_letter_29 : decode cX6_letter 29 = .ok (.getfield 10, 3) := by decide +kernel
theorem dX6_letter_32 : decode cX6_letter 32 = .ok (.aload_n 0, 1) := by decide +kernel
theorem dX6_letter_33 : decode cX6_letter 33 = .ok (.getfield 19, 3) := by decide +kernel
theorem dX6_letter_36 : decode cX6_letter 36 = .ok (.invokestatic 119, 3) := by decide +kernel
theorem dX6_letter_39 : decode cX6_letter 39 = .ok (.putfield 23, 3) := by decide +kernel
theorem dX6_letter_42 : decode cX6_letter 42 = .ok (.aload_n 0, 1) := by decide +kernel
theorem dX6_letter_43 : decode cX6_letter 43 = .ok (.getfield 23, 3) := by decide +kernel
theorem dX6_letter_46 : decode cX6_letter 46 = .ok (.iconst (-1), 1) := by decide +kernel
theorem dX6_letter_47 : decode cX6_letter 47 = .ok (.if_icmp .eq 13, 3) := by decide +kernel
theorem dX6_letter_50 : decode cX6_letter 50 = .ok (.new 81, 3) := by decide +kernel
theorem dX6_letter_53 : decode cX6_letter 53 = .ok (.dup, 1) := by decide +kernel
theorem dX6_letter_54 : decode cX6_letter 54 = .ok (.ldc 125, 2) := by decide +kernel
theorem dX6_letter_56 : decode cX6_letter 56 = .ok (.invokespecial 85, 3) := by decide +kernel
theorem dX6_letter_59 : decode cX6_letter 59 = .ok (.athrow, 1) := by decide +kernel
theorem dX6_letter_60 : decode cX6_letter 60 = .ok (.aload_n 0, 1) := by decide +kernel
theorem dX6_letter_61 : decode cX6_letter 61 = .ok (.getfield 37, 3) := by decide +kernel
theorem dX6_letter_64 : decode cX6_letter 64 = .ok (.invokevirtual 92, 3) := by decide +kernel
theorem dX6_letter_67 : decode cX6_letter 67 = .ok (.bipush 80, 2) := by decide +kernel
theorem dX6_letter_69 : decode cX6_letter 69 = .ok (.if_icmp .lt 13, 3) := by decide +kernel
theorem dX6_letter_72 : decode cX6_letter 72 = .ok (.new 96, 3) := by decide +kernel
theorem dX6_letter_75 : decode cX6_letter 75 = .ok (.dup, 1) := by decide +kernel
theorem dX6_letter_76 : decode cX6_letter 76 = .ok (.ldc 127, 2) := by decide +kernel
theorem dX6_letter_78 : decode cX6_letter 78 = .ok (.invokespecial 100, 3) := by decide +kernel
theorem dX6_letter_81 : decode cX6_letter 81 = .ok (.athrow, 1) := by decide +kernel
theorem dX6_letter_82 : decode cX6_letter 82 = .ok (.new 120, 3) := by decide +kernel
theorem dX6_letter_85 : decode cX6_letter 85 = .ok (.dup, 1) := by decide +kernel
theorem dX6_letter_86 : decode cX6_letter 86 = .ok (.iload_n 1, 1) := by decide +kernel
theorem dX6_letter_87 : decode cX6_letter 87 = .ok (.aload_n 0, 1) := by decide +kernel
theorem dX6_letter_88 : decode cX6_letter 88 = .ok (.getfield 27, 3) := by decide +kernel
theorem dX6_letter_91 : decode cX6_letter 91 = .ok (.invokespecial 129, 3) := by decide +kernel
theorem dX6_letter_94 : decode cX6_letter 94 = .ok (.astore_n 2, 1) := by decide +kernel
theorem dX6_letter_95 : decode cX6_letter 95 = .ok (.iconst 0, 1) := by decide +kernel
theorem dX6_letter_96 : decode cX6_letter 96 = .ok (.istore_n 3, 1) := by decide +kernel
theorem dX6_letter_97 : decode cX6_letter 97 = .ok (.iload_n 3, 1) := by decide +kernel
theorem dX6_letter_98 : decode cX6_letter 98 = .ok (.aload_n 0, 1) := by decide +kernel
theorem dX6_letter_99 : decode cX6_letter 99 = .ok (.getfield 19, 3) := by decide +kernel
theorem dX6_letter_102 : decode cX6_letter 102 = .ok (.getfield 132, 3) := by decide +kernel
theorem dX6_letter_105 : decode cX6_letter 105 = .ok (.if_icmp .ge 58, 3) := by decide +kernel
theorem dX6_letter_108 : decode cX6_letter 108 = .ok (.iload_n 3, 1) := by decide +kernel
theorem dX6_letter_109 : decode cX6_letter 109 = .ok (.bipush 6, 2) := by decide +kernel
theorem dX6_letter_111 : decode cX6_letter 111 = .ok (.if_icmp .ge 52, 3) := by decide +kernel
theorem dX6_letter_114 : decode cX6_letter 114 = .ok (.new 135, 3) := by decide +kernel
theorem dX6_letter_117 : decode cX6_letter 117 = .ok (.dup, 1) := by decide +kernel
theorem dX6_letter_118 : decode cX6_letter 118 = .ok (.aload_n 0, 1) := by decide +kernel
theorem dX6_letter_119 : decode cX6_letter 119 = .ok (.getfield 19, 3) := by decide +kernel
theorem dX6_letter_122 : decode cX6_letter 122 = .ok (.iload_n 3, 1) := by decide +kernel
theorem dX6_letter_123 : decode cX6_letter 123 = .ok (.invokevirtual 137, 3) := by decide +kernel
theorem dX6_letter_126 : decode cX6_letter 126 = .ok (.invokespecial 141, 3) := by decide +kernel
theorem dX6_letter_129 : decode cX6_letter 129 = .ok (.astore 4, 2) := by decide +kernel
theorem dX6_letter_131 : decode cX6_letter 131 = .ok (.aload 4, 2) := by decide +kernel
theorem dX6_letter_133 : decode cX6_letter 133 = .ok (.aload_n 0, 1) := by decide +kernel
theorem dX6_letter_134 : decode cX6_letter 134 = .ok (.aload 4, 2) := by decide +kernel
theorem dX6_letter_136 : decode cX6_letter 136 = .ok (.invokevirtual 144, 3) := by decide +kernel
theorem dX6_letter_139 : decode cX6_letter 139 = .ok (.aload_n 2, 1) := by decide +kernel
theorem dX6_letter_140 : decode cX6_letter 140 = .ok (.getfield 148, 3) := by decide +kernel
theorem dX6_letter_143 : decode cX6_letter 143 = .ok (.invokevirtual 151, 3) := by decide +kernel
theorem dX6_letter_146 : decode cX6_letter 146 = .ok (.pop, 1) := by decide +kernel
theorem dX6_letter_147 : decode cX6_letter 147 = .ok (.aload_n 2, 1) := by decide +kernel
theorem dX6_letter_148 : decode cX6_letter 148 = .ok (.getfield 155, 3) := by decide +kernel
theorem dX6_letter_151 : decode cX6_letter 151 = .ok (.aload 4, 2) := by decide +kernel
theorem dX6_letter_153 : decode cX6_letter 153 = .ok (.invokevirtual 106, 3) := by decide +kernel
theorem dX6_letter_156 : decode cX6_letter 156 = .ok (.pop, 1) := by decide +kernel
theorem dX6_letter_157 : decode cX6_letter 157 = .ok (.iinc 3 1, 3) := by decide +kernel
theorem dX6_letter_160 : decode cX6_letter 160 = .ok (.goto (-63), 3) := by decide +kernel
theorem dX6_letter_163 : decode cX6_letter 163 = .ok (.aload_n 0, 1) := by decide +kernel
theorem dX6_letter_164 : decode cX6_letter 164 = .ok (.getfield 37, 3) := by decide +kernel
theorem dX6_letter_167 : decode cX6_letter 167 = .ok (.aload_n 2, 1) := by decide +kernel
theorem dX6_letter_168 : decode cX6_letter 168 = .ok (.invokevirtual 106, 3) := by decide +kernel
theorem dX6_letter_171 : decode cX6_letter 171 = .ok (.pop, 1) := by decide +kernel
theorem dX6_letter_172 : decode cX6_letter 172 = .ok (.aload_n 0, 1) := by decide +kernel
theorem dX6_letter_173 : decode cX6_letter 173 = .ok (.getfield 37, 3) := by decide +kernel
theorem dX6_letter_176 : decode cX6_letter 176 = .ok (.invokevirtual 92, 3) := by decide +kernel
theorem dX6_letter_179 : decode cX6_letter 179 = .ok (.iconst 1, 1) := by decide +kernel
theorem dX6_letter_180 : decode cX6_letter 180 = .ok (.isub, 1) := by decide +kernel
theorem dX6_letter_181 : decode cX6_letter 181 = .ok (.ireturn, 1) := by decide +kernel
theorem dX6_fault_0 : decode cX6_fault 0 = .ok (.aload_n 0, 1) := by decide +kernel
theorem dX6_fault_1 : decode cX6_fault 1 = .ok (.getfield 23, 3) := by decide +kernel
theorem dX6_fault_4 : decode cX6_fault 4 = .ok (.ireturn, 1) := by decide +kernel
theorem dX6_hours_0 : decode cX6_hours 0 = .ok (.iload_n 1, 1) := by decide +kernel
theorem dX6_hours_1 : decode cX6_hours 1 = .ok (.invokestatic 78, 3) := by decide +kernel
theorem dX6_hours_4 : decode cX6_hours 4 = .ok (.iload_n 2, 1) := by decide +kernel
theorem dX6_hours_5 : decode cX6_hours 5 = .ok (.ifCond .lt 9, 3) := by decide +kernel
theorem dX6_hours_8 : decode cX6_hours 8 = .ok (.iload_n 2, 1) := by decide +kernel
theorem dX6_hours_9 : decode cX6_hours 9 = .ok (.bipush 20, 2) := by decide +kernel
theorem dX6_hours_11 : decode cX6_hours 11 = .ok (.if_icmp .le 13, 3) := by decide +kernel
theorem dX6_hours_14 : decode cX6_hours 14 = .ok (.new 81, 3) := by decide +kernel
theorem dX6_hours_17 : decode cX6_hours 17 = .ok (.dup, 1) := by decide +kernel
theorem dX6_hours_18 : decode cX6_hours 18 = .ok (.ldc 158, 2) := by decide +kernel
theorem dX6_hours_20 : decode cX6_hours 20 = .ok (.invokespecial 85, 3) := by decide +kernel
theorem dX6_hours_23 : decode cX6_hours 23 = .ok (.athrow, 1) := by decide +kernel
theorem dX6_hours_24 : decode cX6_hours 24 = .ok (.aload_n 0, 1) := by decide +kernel
theorem dX6_hours_25 : decode cX6_hours 25 = .ok (.getfield 40, 3) := by decide +kernel
theorem dX6_hours_28 : decode cX6_hours 28 = .ok (.iload_n 1, 1) := by decide +kernel
theorem dX6_hours_29 : decode cX6_hours 29 = .ok (.iload_n 2, 1) := by decide +kernel
theorem dX6_hours_30 : decode cX6_hours 30 = .ok (.iastore, 1) := by decide +kernel
theorem dX6_hours_31 : decode cX6_hours 31 = .ok (.return_, 1) := by decide +kernel
theorem dX6_days_0 : decode cX6_days 0 = .ok (.iload_n 1, 1) := by decide +kernel
theorem dX6_days_1 : decode cX6_days 1 = .ok (.ifCond .lt 9, 3) := by decide +kernel
theorem dX6_days_4 : decode cX6_days 4 = .ok (.iload_n 1, 1) := by decide +kernel
theorem dX6_days_5 : decode cX6_days 5 = .ok (.bipush 60, 2) := by decide +kernel
theorem dX6_days_7 : decode cX6_days 7 = .ok (.if_icmp .le 13, 3) := by decide +kernel
theorem dX6_days_10 : decode cX6_days 10 = .ok (.new 81, 3) := by decide +kernel
theorem dX6_days_13 : decode cX6_days 13 = .ok (.dup, 1) := by decide +kernel
theorem dX6_days_14 : decode cX6_days 14 = .ok (.ldc 83, 2) := by decide +kernel
theorem dX6_days_16 : decode cX6_days 16 = .ok (.invokespecial 85, 3) := by decide +kernel
theorem dX6_days_19 : decode cX6_days 19 = .ok (.athrow, 1) := by decide +kernel
theorem dX6_days_20 : decode cX6_days 20 = .ok (.iconst 0, 1) := by decide +kernel
theorem dX6_days_21 : decode cX6_days 21 = .ok (.istore_n 2, 1) := by decide +kernel
theorem dX6_days_22 : decode cX6_days 22 = .ok (.iload_n 2, 1) := by decide +kernel
theorem dX6_days_23 : decode cX6_days 23 = .ok (.iload_n 1, 1) := by decide +kernel
theorem dX6_days_24 : decode cX6_days 24 = .ok (.if_icmp .ge 47, 3) := by decide +kernel
theorem dX6_days_27 : decode cX6_days 27 = .ok (.aload_n 0, 1) := by decide +kernel
theorem dX6_days_28 : decode cX6_days 28 = .ok (.getfield 27, 3) := by decide +kernel
theorem dX6_days_31 : decode cX6_days 31 = .ok (.sipush 400, 3) := by decide +kernel
theorem dX6_days_34 : decode cX6_days 34 = .ok (.if_icmp .ge 37, 3) := by decide +kernel
theorem dX6_days_37 : decode cX6_days 37 = .ok (.aload_n 0, 1) := by decide +kernel
theorem dX6_days_38 : decode cX6_days 38 = .ok (.dup, 1) := by decide +kernel
theorem dX6_days_39 : decode cX6_days 39 = .ok (.getfield 27, 3) := by decide +kernel
theorem dX6_days_42 : decode cX6_days 42 = .ok (.iconst 1, 1) := by decide +kernel
theorem dX6_days_43 : decode cX6_days 43 = .ok (.iadd, 1) := by decide +kernel
theorem dX6_days_44 : decode cX6_days 44 = .ok (.putfield 27, 3) := by decide +kernel
theorem dX6_days_47 : decode cX6_days 47 = .ok (.iconst 0, 1) := by decide +kernel
theorem dX6_days_48 : decode cX6_days 48 = .ok (.istore_n 3, 1) := by decide +kernel
theorem dX6_days_49 : decode cX6_days 49 = .ok (.iload_n 3, 1) := by decide +kernel
theorem dX6_days_50 : decode cX6_days 50 = .ok (.iconst 4, 1) := by decide +kernel
theorem dX6_days_51 : decode cX6_days 51 = .ok (.if_icmp .ge 14, 3) := by decide +kernel
theorem dX6_days_54 : decode cX6_days 54 = .ok (.aload_n 0, 1) := by decide +kernel
theorem dX6_days_55 : decode cX6_days 55 = .ok (.iload_n 3, 1) := by decide +kernel
theorem dX6_days_56 : decode cX6_days 56 = .ok (.invokevirtual 160, 3) := by decide +kernel
theorem dX6_days_59 : decode cX6_days 59 = .ok (.iinc 3 1, 3) := by decide +kernel
theorem dX6_days_62 : decode cX6_days 62 = .ok (.goto (-13), 3) := by decide +kernel
theorem dX6_days_65 : decode cX6_days 65 = .ok (.iinc 2 1, 3) := by decide +kernel
theorem dX6_days_68 : decode cX6_days 68 = .ok (.goto (-46), 3) := by decide +kernel
theorem dX6_days_71 : decode cX6_days 71 = .ok (.aload_n 0, 1) := by decide +kernel
theorem dX6_days_72 : decode cX6_days 72 = .ok (.getfield 27, 3) := by decide +kernel
theorem dX6_days_75 : decode cX6_days 75 = .ok (.ireturn, 1) := by decide +kernel
theorem dX6_answer_0 : decode cX6_answer 0 = .ok (.aload_n 0, 1) := by decide +kernel
theorem dX6_answer_1 : decode cX6_answer 1 = .ok (.iload_n 1, 1) := by decide +kernel
theorem dX6_answer_2 : decode cX6_answer 2 = .ok (.invokevirtual 163, 3) := by decide +kernel
theorem dX6_answer_5 : decode cX6_answer 5 = .ok (.iload_n 2, 1) := by decide +kernel
theorem dX6_answer_6 : decode cX6_answer 6 = .ok (.invokevirtual 167, 3) := by decide +kernel
theorem dX6_answer_9 : decode cX6_answer 9 = .ok (.astore_n 3, 1) := by decide +kernel
theorem dX6_answer_10 : decode cX6_answer 10 = .ok (.aload_n 3, 1) := by decide +kernel
theorem dX6_answer_11 : decode cX6_answer 11 = .ok (.invokevirtual 171, 3) := by decide +kernel
theorem dX6_answer_14 : decode cX6_answer 14 = .ok (.ifCond .eq 5, 3) := by decide +kernel
theorem dX6_answer_17 : decode cX6_answer 17 = .ok (.iconst 0, 1) := by decide +kernel
theorem dX6_answer_18 : decode cX6_answer 18 = .ok (.ireturn, 1) := by decide +kernel
theorem dX6_answer_19 : decode cX6_answer 19 = .ok (.aload_n 3, 1) := by decide +kernel
theorem dX6_answer_20 : decode cX6_answer 20 = .ok (.aload_n 0, 1) := by decide +kernel
theorem dX6_answer_21 : decode cX6_answer 21 = .ok (.getfield 27, 3) := by decide +kernel
theorem dX6_answer_24 : decode cX6_answer 24 = .ok (.putfield 174, 3) := by decide +kernel
theorem dX6_answer_27 : decode cX6_answer 27 = .ok (.iconst 1, 1) := by decide +kernel
theorem dX6_answer_28 : decode cX6_answer 28 = .ok (.ireturn, 1) := by decide +kernel
theorem dX6_point_0 : decode cX6_point 0 = .ok (.aload_n 0, 1) := by decide +kernel
theorem dX6_point_1 : decode cX6_point 1 = .ok (.iload_n 1, 1) := by decide +kernel
theorem dX6_point_2 : decode cX6_point 2 = .ok (.invokevirtual 163, 3) := by decide +kernel
theorem dX6_point_5 : decode cX6_point 5 = .ok (.astore 4, 2) := by decide +kernel
theorem dX6_point_7 : decode cX6_point 7 = .ok (.aload 4, 2) := by decide +kernel
theorem dX6_point_9 : decode cX6_point 9 = .ok (.iload_n 2, 1) := by decide +kernel
theorem dX6_point_10 : decode cX6_point 10 = .ok (.invokevirtual 167, 3) := by decide +kernel
theorem dX6_point_13 : decode cX6_point 13 = .ok (.astore 5, 2) := by decide +kernel
theorem dX6_point_15 : decode cX6_point 15 = .ok (.iload_n 3, 1) := by decide +kernel
theorem dX6_point_16 : decode cX6_point 16 = .ok (.tableswitch 91 0 4 #[36, 57, 63, 69, 84], 36) := by decide +kernel
theorem dX6_point_52 : decode cX6_point 52 = .ok (.aload 5, 2) := by decide +kernel
theorem dX6_point_54 : decode cX6_point 54 = .ok (.getfield 177, 3) := by decide +kernel
theorem dX6_point_57 : decode cX6_point 57 = .ok (.ifnonnull 7, 3) := by decide +kernel
theorem dX6_point_60 : decode cX6_point 60 = .ok (.iconst (-1), 1) := by decide +kernel
theorem dX6_point_61 : decode cX6_point 61 = .ok (.goto 11, 3) := by decide +kernel
theorem dX6_point_64 : decode cX6_point 64 = .ok (.aload 5, 2) := by decide +kernel
theorem dX6_point_66 : decode cX6_point 66 = .ok (.getfield 177, 3) := by decide +kernel
theorem dX6_point_69 : decode cX6_point 69 = .ok (.getfield 181, 3) := by decide +kernel
theorem dX6_point_72 : decode cX6_point 72 = .ok (.ireturn, 1) := by decide +kernel
theorem dX6_point_73 : decode cX6_point 73 = .ok (.aload 5, 2) := by decide +kernel
theorem dX6_point_75 : decode cX6_point 75 = .ok (.getfield 184, 3) := by decide +kernel
theorem dX6_point_78 : decode cX6_point 78 = .ok (.ireturn, 1) := by decide +kernel
theorem dX6_point_79 : decode cX6_point 79 = .ok (.aload 5, 2) := by decide +kernel
theorem dX6_point_81 : decode cX6_point 81 = .ok (.getfield 174, 3) := by decide +kernel
theorem dX6_point_84 : decode cX6_point 84 = .ok (.ireturn, 1) := by decide +kernel
theorem dX6_point_85 : decode cX6_point 85 = .ok (.aload_n 0, 1) := by decide +kernel
theorem dX6_point_86 : decode cX6_point 86 = .ok (.aload 4, 2) := by decide +kernel
theorem dX6_point_88 : decode cX6_point 88 = .ok (.getfield 187, 3) := by decide +kernel
theorem dX6_point_91 : decode cX6_point 91 = .ok (.aload 5, 2) := by decide +kernel
theorem dX6_point_93 : decode cX6_point 93 = .ok (.getfield 177, 3) := by decide +kernel
theorem dX6_point_96 : decode cX6_point 96 = .ok (.invokevirtual 190, 3) := by decide +kernel
theorem dX6_point_99 : decode cX6_point 99 = .ok (.ireturn, 1) := by decide +kernel
theorem dX6_point_100 : decode cX6_point 100 = .ok (.aload 5, 2) := by decide +kernel
theorem dX6_point_102 : decode cX6_point 102 = .ok (.getfield 194, 3) := by decide +kernel
theorem dX6_point_105 : decode cX6_point 105 = .ok (.arraylength, 1) := by decide +kernel
theorem dX6_point_106 : decode cX6_point 106 = .ok (.ireturn, 1) := by decide +kernel
theorem dX6_point_107 : decode cX6_point 107 = .ok (.new 198, 3) := by decide +kernel
theorem dX6_point_110 : decode cX6_point 110 = .ok (.dup, 1) := by decide +kernel
theorem dX6_point_111 : decode cX6_point 111 = .ok (.ldc 200, 2) := by decide +kernel
theorem dX6_point_113 : decode cX6_point 113 = .ok (.invokespecial 202, 3) := by decide +kernel
theorem dX6_point_116 : decode cX6_point 116 = .ok (.athrow, 1) := by decide +kernel
theorem dX6_look_0 : decode cX6_look 0 = .ok (.aload_n 0, 1) := by decide +kernel
theorem dX6_look_1 : decode cX6_look 1 = .ok (.iload_n 1, 1) := by decide +kernel
theorem dX6_look_2 : decode cX6_look 2 = .ok (.invokevirtual 163, 3) := by decide +kernel
theorem dX6_look_5 : decode cX6_look 5 = .ok (.astore_n 3, 1) := by decide +kernel
theorem dX6_look_6 : decode cX6_look 6 = .ok (.iload_n 2, 1) := by decide +kernel
theorem dX6_look_7 : decode cX6_look 7 = .ok (.tableswitch 73 0 4 #[33, 38, 43, 51, 64], 33) := by decide +kernel
theorem dX6_look_40 : decode cX6_look 40 = .ok (.aload_n 3, 1) := by decide +kernel
theorem dX6_look_41 : decode cX6_look 41 = .ok (.getfield 187, 3) := by decide +kernel
theorem dX6_look_44 : decode cX6_look 44 = .ok (.ireturn, 1) := by decide +kernel
theorem dX6_look_45 : decode cX6_look 45 = .ok (.aload_n 3, 1) := by decide +kernel
theorem dX6_look_46 : decode cX6_look 46 = .ok (.getfield 148, 3) := by decide +kernel
theorem dX6_look_49 : decode cX6_look 49 = .ok (.ireturn, 1) := by decide +kernel
theorem dX6_look_50 : decode cX6_look 50 = .ok (.aload_n 3, 1) := by decide +kernel
theorem dX6_look_51 : decode cX6_look 51 = .ok (.getfield 155, 3) := by decide +kernel
theorem dX6_look_54 : decode cX6_look 54 = .ok (.invokevirtual 92, 3) := by decide +kernel
theorem dX6_look_57 : decode cX6_look 57 = .ok (.ireturn, 1) := by decide +kernel
theorem dX6_look_58 : decode cX6_look 58 = .ok (.aload_n 3, 1) := by decide +kernel
theorem dX6_look_59 : decode cX6_look 59 = .ok (.invokevirtual 203, 3) := by decide +kernel
theorem dX6_look_62 : decode cX6_look 62 = .ok (.ifCond .eq 7, 3) := by decide +kernel
theorem dX6_look_65 : decode cX6_look 65 = .ok (.iconst 1, 1) := by decide +kernel
theorem dX6_look_66 : decode cX6_look 66 = .ok (.goto 4, 3) := by decide +kernel
theorem dX6_look_69 : decode cX6_look 69 = .ok (.iconst 0, 1) := by decide +kernel
theorem dX6_look_70 : decode cX6_look 70 = .ok (.ireturn, 1) := by decide +kernel
theorem dX6_look_71 : decode cX6_look 71 = .ok (.aload_n 0, 1) := by decide +kernel
theorem dX6_look_72 : decode cX6_look 72 = .ok (.aload_n 3, 1) := by decide +kernel
theorem dX6_look_73 : decode cX6_look 73 = .ok (.invokevirtual 206, 3) := by decide +kernel
theorem dX6_look_76 : decode cX6_look 76 = .ok (.invokevirtual 209, 3) := by decide +kernel
theorem dX6_look_79 : decode cX6_look 79 = .ok (.ireturn, 1) := by decide +kernel
theorem dX6_look_80 : decode cX6_look 80 = .ok (.new 198, 3) := by decide +kernel
theorem dX6_look_83 : decode cX6_look 83 = .ok (.dup, 1) := by decide +kernel
theorem dX6_look_84 : decode cX6_look 84 = .ok (.ldc 213, 2) := by decide +kernel
theorem dX6_look_86 : decode cX6_look 86 = .ok (.invokespecial 202, 3) := by decide +kernel
theorem dX6_look_89 : decode cX6_look 89 = .ok (.athrow, 1) := by decide +kernel
theorem dX6_late_0 : decode cX6_late 0 = .ok (.iload_n 1, 1) := by decide +kernel
theorem dX6_late_1 : decode cX6_late 1 = .ok (.invokestatic 78, 3) := by decide +kernel
theorem dX6_late_4 : decode cX6_late 4 = .ok (.aload_n 0, 1) := by decide +kernel
theorem dX6_late_5 : decode cX6_late 5 = .ok (.iload_n 1, 1) := by decide +kernel
theorem dX6_late_6 : decode cX6_late 6 = .ok (.invokevirtual 215, 3) := by decide +kernel
theorem dX6_late_9 : decode cX6_late 9 = .ok (.istore_n 2, 1) := by decide +kernel
theorem dX6_late_10 : decode cX6_late 10 = .ok (.iconst 0, 1) := by decide +kernel
theorem dX6_late_11 : decode cX6_late 11 = .ok (.istore_n 3, 1) := by decide +kernel
theorem dX6_late_12 : decode cX6_late 12 = .ok (.iconst 1, 1) := by decide +kernel
theorem dX6_late_13 : decode cX6_late 13 = .ok (.istore 4, 2) := by decide +kernel
theorem dX6_late_15 : decode cX6_late 15 = .ok (.iload 4, 2) := by decide +kernel
theorem dX6_late_17 : decode cX6_late 17 = .ok (.aload_n 0, 1) := by decide +kernel
theorem dX6_late_18 : decode cX6_late 18 = .ok (.getfield 53, 3) := by decide +kernel
theorem dX6_late_21 : decode cX6_late 21 = .ok (.arraylength, 1) := by decide +kernel
theorem dX6_late_22 : decode cX6_late 22 = .ok (.if_icmp .ge 31, 3) := by decide +kernel
theorem dX6_late_25 : decode cX6_late 25 = .ok (.iload_n 3, 1) := by decide +kernel
theorem dX6_late_26 : decode cX6_late 26 = .ok (.aload_n 0, 1) := by decide +kernel
theorem dX6_late_27 : decode cX6_late 27 = .ok (.getfield 53, 3) := by decide +kernel
theorem dX6_late_30 : decode cX6_late 30 = .ok (.iload 4, 2) := by decide +kernel
theorem dX6_late_32 : decode cX6_late 32 = .ok (.iaload, 1) := by decide +kernel
theorem dX6_late_33 : decode cX6_late 33 = .ok (.iadd, 1) := by decide +kernel
theorem dX6_late_34 : decode cX6_late 34 = .ok (.aload_n 0, 1) := by decide +kernel
theorem dX6_late_35 : decode cX6_late 35 = .ok (.getfield 40, 3) := by decide +kernel
theorem dX6_late_38 : decode cX6_late 38 = .ok (.iload_n 1, 1) := by decide +kernel
theorem dX6_late_39 : decode cX6_late 39 = .ok (.iaload, 1) := by decide +kernel
theorem dX6_late_40 : decode cX6_late 40 = .ok (.iload 4, 2) := by decide +kernel
theorem dX6_late_42 : decode cX6_late 42 = .ok (.imul, 1) := by decide +kernel
theorem dX6_late_43 : decode cX6_late 43 = .ok (.invokestatic 218, 3) := by decide +kernel
theorem dX6_late_46 : decode cX6_late 46 = .ok (.istore_n 3, 1) := by decide +kernel
theorem dX6_late_47 : decode cX6_late 47 = .ok (.iinc 4 1, 3) := by decide +kernel
theorem dX6_late_50 : decode cX6_late 50 = .ok (.goto (-35), 3) := by decide +kernel
theorem dX6_late_53 : decode cX6_late 53 = .ok (.iload_n 2, 1) := by decide +kernel
theorem dX6_late_54 : decode cX6_late 54 = .ok (.iload_n 3, 1) := by decide +kernel
theorem dX6_late_55 : decode cX6_late 55 = .ok (.isub, 1) := by decide +kernel
theorem dX6_late_56 : decode cX6_late 56 = .ok (.ireturn, 1) := by decide +kernel
theorem dX6_waits_0 : decode cX6_waits 0 = .ok (.iload_n 1, 1) := by decide +kernel
theorem dX6_waits_1 : decode cX6_waits 1 = .ok (.invokestatic 78, 3) := by decide +kernel
theorem dX6_waits_4 : decode cX6_waits 4 = .ok (.iconst 0, 1) := by decide +kernel
theorem dX6_waits_5 : decode cX6_waits 5 = .ok (.istore_n 2, 1) := by decide +kernel
theorem dX6_waits_6 : decode cX6_waits 6 = .ok (.iconst 0, 1) := by decide +kernel
theorem dX6_waits_7 : decode cX6_waits 7 = .ok (.istore_n 3, 1) := by decide +kernel
theorem dX6_waits_8 : decode cX6_waits 8 = .ok (.iload_n 3, 1) := by decide +kernel
theorem dX6_waits_9 : decode cX6_waits 9 = .ok (.aload_n 0, 1) := by decide +kernel
theorem dX6_waits_10 : decode cX6_waits 10 = .ok (.getfield 37, 3) := by decide +kernel
theorem dX6_waits_13 : decode cX6_waits 13 = .ok (.invokevirtual 92, 3) := by decide +kernel
theorem dX6_waits_16 : decode cX6_waits 16 = .ok (.if_icmp .ge 64, 3) := by decide +kernel
theorem dX6_waits_19 : decode cX6_waits 19 = .ok (.aload_n 0, 1) := by decide +kernel
theorem dX6_waits_20 : decode cX6_waits 20 = .ok (.getfield 37, 3) := by decide +kernel
theorem dX6_waits_23 : decode cX6_waits 23 = .ok (.iload_n 3, 1) := by decide +kernel
theorem dX6_waits_24 : decode cX6_waits 24 = .ok (.invokevirtual 224, 3) := by decide +kernel
theorem dX6_waits_27 : decode cX6_waits 27 = .ok (.checkcast 120, 3) := by decide +kernel
theorem dX6_waits_30 : decode cX6_waits 30 = .ok (.getfield 155, 3) := by decide +kernel
theorem dX6_waits_33 : decode cX6_waits 33 = .ok (.astore 4, 2) := by decide +kernel
theorem dX6_waits_35 : decode cX6_waits 35 = .ok (.iconst 0, 1) := by decide +kernel
theorem dX6_waits_36 : decode cX6_waits 36 = .ok (.istore 5, 2) := by decide +kernel
theorem dX6_waits_38 : decode cX6_waits 38 = .ok (.iload 5, 2) := by decide +kernel
theorem dX6_waits_40 : decode cX6_waits 40 = .ok (.aload 4, 2) := by decide +kernel
theorem dX6_waits_42 : decode cX6_waits 42 = .ok (.invokevirtual 92, 3) := by decide +kernel
theorem dX6_waits_45 : decode cX6_waits 45 = .ok (.if_icmp .ge 29, 3) := by decide +kernel
theorem dX6_waits_48 : decode cX6_waits 48 = .ok (.aload 4, 2) := by decide +kernel
theorem dX6_waits_50 : decode cX6_waits 50 = .ok (.iload 5, 2) := by decide +kernel
theorem dX6_waits_52 : decode cX6_waits 52 = .ok (.invokevirtual 224, 3) := by decide +kernel
theorem dX6_waits_55 : decode cX6_waits 55 = .ok (.checkcast 135, 3) := by decide +kernel
theorem dX6_waits_58 : decode cX6_waits 58 = .ok (.iload_n 1, 1) := by decide +kernel
theorem dX6_waits_59 : decode cX6_waits 59 = .ok (.invokevirtual 228, 3) := by decide +kernel
theorem dX6_waits_62 : decode cX6_waits 62 = .ok (.ifCond .eq 6, 3) := by decide +kernel
theorem dX6_waits_65 : decode cX6_waits 65 = .ok (.iinc 2 1, 3) := by decide +kernel
theorem dX6_waits_68 : decode cX6_waits 68 = .ok (.iinc 5 1, 3) := by decide +kernel
theorem dX6_waits_71 : decode cX6_waits 71 = .ok (.goto (-33), 3) := by decide +kernel
theorem dX6_waits_74 : decode cX6_waits 74 = .ok (.iinc 3 1, 3) := by decide +kernel
theorem dX6_waits_77 : decode cX6_waits 77 = .ok (.goto (-69), 3) := by decide +kernel
theorem dX6_waits_80 : decode cX6_waits 80 = .ok (.iload_n 2, 1) := by decide +kernel
theorem dX6_waits_81 : decode cX6_waits 81 = .ok (.ireturn, 1) := by decide +kernel
theorem dX6_template_0 : decode cX6_template 0 = .ok (.iconst 1, 1) := by decide +kernel
theorem dX6_template_1 : decode cX6_template 1 = .ok (.aload_n 0, 1) := by decide +kernel
theorem dX6_template_2 : decode cX6_template 2 = .ok (.getfield 33, 3) := by decide +kernel
theorem dX6_template_5 : decode cX6_template 5 = .ok (.invokevirtual 92, 3) := by decide +kernel
theorem dX6_template_8 : decode cX6_template 8 = .ok (.ishl, 1) := by decide +kernel
theorem dX6_template_9 : decode cX6_template 9 = .ok (.iconst 1, 1) := by decide +kernel
theorem dX6_template_10 : decode cX6_template 10 = .ok (.isub, 1) := by decide +kernel
theorem dX6_template_11 : decode cX6_template 11 = .ok (.istore_n 2, 1) := by decide +kernel
theorem dX6_template_12 : decode cX6_template 12 = .ok (.iload_n 1, 1) := by decide +kernel
theorem dX6_template_13 : decode cX6_template 13 = .ok (.ifCond .eq 11, 3) := by decide +kernel
theorem dX6_template_16 : decode cX6_template 16 = .ok (.iload_n 1, 1) := by decide +kernel
theorem dX6_template_17 : decode cX6_template 17 = .ok (.iload_n 2, 1) := by decide +kernel
theorem dX6_template_18 : decode cX6_template 18 = .ok (.iconst (-1), 1) := by decide +kernel
theorem dX6_template_19 : decode cX6_template 19 = .ok (.ixor, 1) := by decide +kernel
theorem dX6_template_20 : decode cX6_template 20 = .ok (.iand, 1) := by decide +kernel
theorem dX6_template_21 : decode cX6_template 21 = .ok (.ifCond .eq 13, 3) := by decide +kernel
theorem dX6_template_24 : decode cX6_template 24 = .ok (.new 81, 3) := by decide +kernel
theorem dX6_template_27 : decode cX6_template 27 = .ok (.dup, 1) := by decide +kernel
theorem dX6_template_28 : decode cX6_template 28 = .ok (.ldc 231, 2) := by decide +kernel
theorem dX6_template_30 : decode cX6_template 30 = .ok (.invokespecial 85, 3) := by decide +kernel
theorem dX6_template_33 : decode cX6_template 33 = .ok (.athrow, 1) := by decide +kernel
theorem dX6_template_34 : decode cX6_template 34 = .ok (.aload_n 0, 1) := by decide +kernel
theorem dX6_template_35 : decode cX6_template 35 = .ok (.getfield 47, 3) := by decide +kernel
theorem dX6_template_38 : decode cX6_template 38 = .ok (.aload_n 0, 1) := by decide +kernel
theorem dX6_template_39 : decode cX6_template 39 = .ok (.getfield 44, 3) := by decide +kernel
theorem dX6_template_42 : decode cX6_template 42 = .ok (.arraylength, 1) := by decide +kernel
theorem dX6_template_43 : decode cX6_template 43 = .ok (.if_icmp .lt 5, 3) := by decide +kernel
theorem dX6_template_46 : decode cX6_template 46 = .ok (.iconst (-1), 1) := by decide +kernel
theorem dX6_template_47 : decode cX6_template 47 = .ok (.ireturn, 1) := by decide +kernel
theorem dX6_template_48 : decode cX6_template 48 = .ok (.aload_n 0, 1) := by decide +kernel
theorem dX6_template_49 : decode cX6_template 49 = .ok (.getfield 44, 3) := by decide +kernel
theorem dX6_template_52 : decode cX6_template 52 = .ok (.aload_n 0, 1) := by decide +kernel
theorem dX6_template_53 : decode cX6_template 53 = .ok (.getfield 47, 3) := by decide +kernel
theorem dX6_template_56 : decode cX6_template 56 = .ok (.iload_n 1, 1) := by decide +kernel
theorem dX6_template_57 : decode cX6_template 57 = .ok (.iastore, 1) := by decide +kernel
theorem dX6_template_58 : decode cX6_template 58 = .ok (.aload_n 0, 1) := by decide +kernel
theorem dX6_template_59 : decode cX6_template 59 = .ok (.dup, 1) := by decide +kernel
theorem dX6_template_60 : decode cX6_template 60 = .ok (.getfield 47, 3) := by decide +kernel
theorem dX6_template_63 : decode cX6_template 63 = .ok (.iconst 1, 1) := by decide +kernel
theorem dX6_template_64 : decode cX6_template 64 = .ok (.iadd, 1) := by decide +kernel
theorem dX6_template_65 : decode cX6_template 65 = .ok (.putfield 47, 3) := by decide +kernel
theorem dX6_template_68 : decode cX6_template 68 = .ok (.aload_n 0, 1) := by decide +kernel
theorem dX6_template_69 : decode cX6_template 69 = .ok (.getfield 47, 3) := by decide +kernel
theorem dX6_template_72 : decode cX6_template 72 = .ok (.iconst 1, 1) := by decide +kernel
theorem dX6_template_73 : decode cX6_template 73 = .ok (.isub, 1) := by decide +kernel
theorem dX6_template_74 : decode cX6_template 74 = .ok (.ireturn, 1) := by decide +kernel
theorem dX6_counts_0 : decode cX6_counts 0 = .ok (.aload_n 0, 1) := by decide +kernel
theorem dX6_counts_1 : decode cX6_counts 1 = .ok (.iload_n 1, 1) := by decide +kernel
theorem dX6_counts_2 : decode cX6_counts 2 = .ok (.invokevirtual 74, 3) := by decide +kernel
theorem dX6_counts_5 : decode cX6_counts 5 = .ok (.astore_n 3, 1) := by decide +kernel
theorem dX6_counts_6 : decode cX6_counts 6 = .ok (.iload_n 2, 1) := by decide +kernel
theorem dX6_counts_7 : decode cX6_counts 7 = .ok (.ifCond .lt 11, 3) := by decide +kernel
theorem dX6_counts_10 : decode cX6_counts 10 = .ok (.iload_n 2, 1) := by decide +kernel
theorem dX6_counts_11 : decode cX6_counts 11 = .ok (.aload_n 0, 1) := by decide +kernel
theorem dX6_counts_12 : decode cX6_counts 12 = .ok (.getfield 27, 3) := by decide +kernel
theorem dX6_counts_15 : decode cX6_counts 15 = .ok (.if_icmp .le 5, 3) := by decide +kernel
theorem dX6_counts_18 : decode cX6_counts 18 = .ok (.iconst 0, 1) := by decide +kernel
theorem dX6_counts_19 : decode cX6_counts 19 = .ok (.ireturn, 1) := by decide +kernel
theorem dX6_counts_20 : decode cX6_counts 20 = .ok (.aload_n 0, 1) := by decide +kernel
theorem dX6_counts_21 : decode cX6_counts 21 = .ok (.aload_n 3, 1) := by decide +kernel
theorem dX6_counts_22 : decode cX6_counts 22 = .ok (.invokevirtual 233, 3) := by decide +kernel
theorem dX6_counts_25 : decode cX6_counts 25 = .ok (.iload_n 2, 1) := by decide +kernel
theorem dX6_counts_26 : decode cX6_counts 26 = .ok (.aload_n 0, 1) := by decide +kernel
theorem dX6_counts_27 : decode cX6_counts 27 = .ok (.getfield 50, 3) := by decide +kernel
theorem dX6_counts_30 : decode cX6_counts 30 = .ok (.arraylength, 1) := by decide +kernel
theorem dX6_counts_31 : decode cX6_counts 31 = .ok (.if_icmp .ge 12, 3) := by decide +kernel
theorem dX6_counts_34 : decode cX6_counts 34 = .ok (.aload_n 0, 1) := by decide +kernel
theorem dX6_counts_35 : decode cX6_counts 35 = .ok (.getfield 50, 3) := by decide +kernel
theorem dX6_counts_38 : decode cX6_counts 38 = .ok (.iload_n 2, 1) := by decide +kernel
theorem dX6_counts_39 : decode cX6_counts 39 = .ok (.iaload, 1) := by decide +kernel
theorem dX6_counts_40 : decode cX6_counts 40 = .ok (.goto 4, 3) := by decide +kernel
theorem dX6_counts_43 : decode cX6_counts 43 = .ok (.iconst 0, 1) := by decide +kernel
theorem dX6_counts_44 : decode cX6_counts 44 = .ok (.ireturn, 1) := by decide +kernel
theorem dX6_wave_0 : decode cX6_wave 0 = .ok (.aload_n 0, 1) := by decide +kernel
theorem dX6_wave_1 : decode cX6_wave 1 = .ok (.aload_n 0, 1) := by decide +kernel
theorem dX6_wave_2 : decode cX6_wave 2 = .ok (.iload_n 1, 1) := by decide +kernel
theorem dX6_wave_3 : decode cX6_wave 3 = .ok (.invokevirtual 74, 3) := by decide +kernel
theorem dX6_wave_6 : decode cX6_wave 6 = .ok (.invokevirtual 233, 3) := by decide +kernel
theorem dX6_wave_9 : decode cX6_wave 9 = .ok (.iconst 0, 1) := by decide +kernel
theorem dX6_wave_10 : decode cX6_wave 10 = .ok (.istore_n 2, 1) := by decide +kernel
theorem dX6_wave_11 : decode cX6_wave 11 = .ok (.iload_n 2, 1) := by decide +kernel
theorem dX6_wave_12 : decode cX6_wave 12 = .ok (.aload_n 0, 1) := by decide +kernel
theorem dX6_wave_13 : decode cX6_wave 13 = .ok (.getfield 27, 3) := by decide +kernel
theorem dX6_wave_16 : decode cX6_wave 16 = .ok (.if_icmp .gt 28, 3) := by decide +kernel
theorem dX6_wave_19 : decode cX6_wave 19 = .ok (.iload_n 2, 1) := by decide +kernel
theorem dX6_wave_20 : decode cX6_wave 20 = .ok (.aload_n 0, 1) := by decide +kernel
theorem dX6_wave_21 : decode cX6_wave 21 = .ok (.getfield 50, 3) := by decide +kernel
theorem dX6_wave_24 : decode cX6_wave 24 = .ok (.arraylength, 1) := by decide +kernel
theorem dX6_wave_25 : decode cX6_wave 25 = .ok (.if_icmp .ge 19, 3) := by decide +kernel
theorem dX6_wave_28 : decode cX6_wave 28 = .ok (.aload_n 0, 1) := by decide +kernel
theorem dX6_wave_29 : decode cX6_wave 29 = .ok (.iload_n 2, 1) := by decide +kernel
theorem dX6_wave_30 : decode cX6_wave 30 = .ok (.invokevirtual 237, 3) := by decide +kernel
theorem dX6_wave_33 : decode cX6_wave 33 = .ok (.ifCond .eq 5, 3) := by decide +kernel
theorem dX6_wave_36 : decode cX6_wave 36 = .ok (.iload_n 2, 1) := by decide +kernel
theorem dX6_wave_37 : decode cX6_wave 37 = .ok (.ireturn, 1) := by decide +kernel
theorem dX6_wave_38 : decode cX6_wave 38 = .ok (.iinc 2 1, 3) := by decide +kernel
theorem dX6_wave_41 : decode cX6_wave 41 = .ok (.goto (-30), 3) := by decide +kernel
theorem dX6_wave_44 : decode cX6_wave 44 = .ok (.iconst (-1), 1) := by decide +kernel
theorem dX6_wave_45 : decode cX6_wave 45 = .ok (.ireturn, 1) := by decide +kernel
theorem dX6_count_0 : decode cX6_count 0 = .ok (.iload_n 1, 1) := by decide +kernel
theorem dX6_count_1 : decode cX6_count 1 = .ok (.tableswitch 88 0 8 #[51, 56, 64, 72, 77, 77, 77, 77, 83], 51) := by decide +kernel
theorem dX6_count_52 : decode cX6_count 52 = .ok (.aload_n 0, 1) := by decide +kernel
theorem dX6_count_53 : decode cX6_count 53 = .ok (.getfield 27, 3) := by decide +kernel
theorem dX6_count_56 : decode cX6_count 56 = .ok (.ireturn, 1) := by decide +kernel
theorem dX6_count_57 : decode cX6_count 57 = .ok (.aload_n 0, 1) := by decide +kernel
theorem dX6_count_58 : decode cX6_count 58 = .ok (.getfield 33, 3) := by decide +kernel
theorem dX6_count_61 : decode cX6_count 61 = .ok (.invokevirtual 92, 3) := by decide +kernel
theorem dX6_count_64 : decode cX6_count 64 = .ok (.ireturn, 1) := by decide +kernel
theorem dX6_count_65 : decode cX6_count 65 = .ok (.aload_n 0, 1) := by decide +kernel
theorem dX6_count_66 : decode cX6_count 66 = .ok (.getfield 37, 3) := by decide +kernel
theorem dX6_count_69 : decode cX6_count 69 = .ok (.invokevirtual 92, 3) := by decide +kernel
theorem dX6_count_72 : decode cX6_count 72 = .ok (.ireturn, 1) := by decide +kernel
theorem dX6_count_73 : decode cX6_count 73 = .ok (.aload_n 0, 1) := by decide +kernel
theorem dX6_count_74 : decode cX6_count 74 = .ok (.invokevirtual 240, 3) := by decide +kernel
theorem dX6_count_77 : decode cX6_count 77 = .ok (.ireturn, 1) := by decide +kernel
theorem dX6_count_78 : decode cX6_count 78 = .ok (.aload_n 0, 1) := by decide +kernel
theorem dX6_count_79 : decode cX6_count 79 = .ok (.iload_n 1, 1) := by decide +kernel
theorem dX6_count_80 : decode cX6_count 80 = .ok (.invokevirtual 243, 3) := by decide +kernel
theorem dX6_count_83 : decode cX6_count 83 = .ok (.ireturn, 1) := by decide +kernel
theorem dX6_count_84 : decode cX6_count 84 = .ok (.aload_n 0, 1) := by decide +kernel
theorem dX6_count_85 : decode cX6_count 85 = .ok (.getfield 47, 3) := by decide +kernel
theorem dX6_count_88 : decode cX6_count 88 = .ok (.ireturn, 1) := by decide +kernel
theorem dX6_count_89 : decode cX6_count 89 = .ok (.iconst (-1), 1) := by decide +kernel
theorem dX6_count_90 : decode cX6_count 90 = .ok (.ireturn, 1) := by decide +kernel
theorem dX6_causeAt_0 : decode cX6_causeAt 0 = .ok (.iload_n 1, 1) := by decide +kernel
theorem dX6_causeAt_1 : decode cX6_causeAt 1 = .ok (.ifCond .lt 14, 3) := by decide +kernel
theorem dX6_causeAt_4 : decode cX6_causeAt 4 = .ok (.iload_n 1, 1) := by decide +kernel
theorem dX6_causeAt_5 : decode cX6_causeAt 5 = .ok (.aload_n 0, 1) := by decide +kernel
theorem dX6_causeAt_6 : decode cX6_causeAt 6 = .ok (.getfield 33, 3) := by decide +kernel
theorem dX6_causeAt_9 : decode cX6_causeAt 9 = .ok (.invokevirtual 92, 3) := by decide +kernel
theorem dX6_causeAt_12 : decode cX6_causeAt 12 = .ok (.if_icmp .lt 13, 3) := by decide +kernel
theorem dX6_causeAt_15 : decode cX6_causeAt 15 = .ok (.new 246, 3) := by decide +kernel
theorem dX6_causeAt_18 : decode cX6_causeAt 18 = .ok (.dup, 1) := by decide +kernel
theorem dX6_causeAt_19 : decode cX6_causeAt 19 = .ok (.ldc 248, 2) := by decide +kernel
theorem dX6_causeAt_21 : decode cX6_causeAt 21 = .ok (.invokespecial 250, 3) := by decide +kernel
theorem dX6_causeAt_24 : decode cX6_causeAt 24 = .ok (.athrow, 1) := by decide +kernel
theorem dX6_causeAt_25 : decode cX6_causeAt 25 = .ok (.aload_n 0, 1) := by decide +kernel
theorem dX6_causeAt_26 : decode cX6_causeAt 26 = .ok (.getfield 33, 3) := by decide +kernel
theorem dX6_causeAt_29 : decode cX6_causeAt 29 = .ok (.iload_n 1, 1) := by decide +kernel
theorem dX6_causeAt_30 : decode cX6_causeAt 30 = .ok (.invokevirtual 224, 3) := by decide +kernel
theorem dX6_causeAt_33 : decode cX6_causeAt 33 = .ok (.checkcast 101, 3) := by decide +kernel
theorem dX6_causeAt_36 : decode cX6_causeAt 36 = .ok (.areturn, 1) := by decide +kernel
theorem dX6_letterAt_0 : decode cX6_letterAt 0 = .ok (.iload_n 1, 1) := by decide +kernel
theorem dX6_letterAt_1 : decode cX6_letterAt 1 = .ok (.ifCond .lt 14, 3) := by decide +kernel
theorem dX6_letterAt_4 : decode cX6_letterAt 4 = .ok (.iload_n 1, 1) := by decide +kernel
theorem dX6_letterAt_5 : decode cX6_letterAt 5 = .ok (.aload_n 0, 1) := by decide +kernel
theorem dX6_letterAt_6 : decode cX6_letterAt 6 = .ok (.getfield 37, 3) := by decide +kernel
theorem dX6_letterAt_9 : decode cX6_letterAt 9 = .ok (.invokevirtual 92, 3) := by decide +kernel
theorem dX6_letterAt_12 : decode cX6_letterAt 12 = .ok (.if_icmp .lt 13, 3) := by decide +kernel
theorem dX6_letterAt_15 : decode cX6_letterAt 15 = .ok (.new 246, 3) := by decide +kernel
theorem dX6_letterAt_18 : decode cX6_letterAt 18 = .ok (.dup, 1) := by decide +kernel
theorem dX6_letterAt_19 : decode cX6_letterAt 19 = .ok (.ldc 251, 2) := by decide +kernel
theorem dX6_letterAt_21 : decode cX6_letterAt 21 = .ok (.invokespecial 250, 3) := by decide +kernel
theorem dX6_letterAt_24 : decode cX6_letterAt 24 = .ok (.athrow, 1) := by decide +kernel
theorem dX6_letterAt_25 : decode cX6_letterAt 25 = .ok (.aload_n 0, 1) := by decide +kernel
theorem dX6_letterAt_26 : decode cX6_letterAt 26 = .ok (.getfield 37, 3) := by decide +kernel
theorem dX6_letterAt_29 : decode cX6_letterAt 29 = .ok (.iload_n 1, 1) := by decide +kernel
theorem dX6_letterAt_30 : decode cX6_letterAt 30 = .ok (.invokevirtual 224, 3) := by decide +kernel
theorem dX6_letterAt_33 : decode cX6_letterAt 33 = .ok (.checkcast 120, 3) := by decide +kernel
theorem dX6_letterAt_36 : decode cX6_letterAt 36 = .ok (.areturn, 1) := by decide +kernel
theorem dX6_checkDesk_0 : decode cX6_checkDesk 0 = .ok (.iload_n 0, 1) := by decide +kernel
theorem dX6_checkDesk_1 : decode cX6_checkDesk 1 = .ok (.ifCond .lt 8, 3) := by decide +kernel
theorem dX6_checkDesk_4 : decode cX6_checkDesk 4 = .ok (.iload_n 0, 1) := by decide +kernel
theorem dX6_checkDesk_5 : decode cX6_checkDesk 5 = .ok (.iconst 4, 1) := by decide +kernel
theorem dX6_checkDesk_6 : decode cX6_checkDesk 6 = .ok (.if_icmp .lt 13, 3) := by decide +kernel
theorem dX6_checkDesk_9 : decode cX6_checkDesk 9 = .ok (.new 246, 3) := by decide +kernel
theorem dX6_checkDesk_12 : decode cX6_checkDesk 12 = .ok (.dup, 1) := by decide +kernel
theorem dX6_checkDesk_13 : decode cX6_checkDesk 13 = .ok (.ldc 253, 2) := by decide +kernel
theorem dX6_checkDesk_15 : decode cX6_checkDesk 15 = .ok (.invokespecial 250, 3) := by decide +kernel
theorem dX6_checkDesk_18 : decode cX6_checkDesk 18 = .ok (.athrow, 1) := by decide +kernel
theorem dX6_checkDesk_19 : decode cX6_checkDesk 19 = .ok (.return_, 1) := by decide +kernel
theorem dX6_readPattern_0 : decode cX6_readPattern 0 = .ok (.aload_n 0, 1) := by decide +kernel
theorem dX6_readPattern_1 : decode cX6_readPattern 1 = .ok (.aload_n 0, 1) := by decide +kernel
theorem dX6_readPattern_2 : decode cX6_readPattern 2 = .ok (.getfield 10, 3) := by decide +kernel
theorem dX6_readPattern_5 : decode cX6_readPattern 5 = .ok (.aload_n 0, 1) := by decide +kernel
theorem dX6_readPattern_6 : decode cX6_readPattern 6 = .ok (.getfield 19, 3) := by decide +kernel
theorem dX6_readPattern_9 : decode cX6_readPattern 9 = .ok (.invokestatic 255, 3) := by decide +kernel
theorem dX6_readPattern_12 : decode cX6_readPattern 12 = .ok (.putfield 23, 3) := by decide +kernel
theorem dX6_readPattern_15 : decode cX6_readPattern 15 = .ok (.aload_n 0, 1) := by decide +kernel
theorem dX6_readPattern_16 : decode cX6_readPattern 16 = .ok (.getfield 23, 3) := by decide +kernel
theorem dX6_readPattern_19 : decode cX6_readPattern 19 = .ok (.iconst (-1), 1) := by decide +kernel
theorem dX6_readPattern_20 : decode cX6_readPattern 20 = .ok (.if_icmp .eq 13, 3) := by decide +kernel
theorem dX6_readPattern_23 : decode cX6_readPattern 23 = .ok (.new 81, 3) := by decide +kernel
theorem dX6_readPattern_26 : decode cX6_readPattern 26 = .ok (.dup, 1) := by decide +kernel
theorem dX6_readPattern_27 : decode cX6_readPattern 27 = .ok (.ldc 125, 2) := by decide +kernel
theorem dX6_readPattern_29 : decode cX6_readPattern 29 = .ok (.invokespecial 85, 3) := by decide +kernel
theorem dX6_readPattern_32 : decode cX6_readPattern 32 = .ok (.athrow, 1) := by decide +kernel
theorem dX6_readPattern_33 : decode cX6_readPattern 33 = .ok (.new 256, 3) := by decide +kernel
theorem dX6_readPattern_36 : decode cX6_readPattern 36 = .ok (.dup, 1) := by decide +kernel
theorem dX6_readPattern_37 : decode cX6_readPattern 37 = .ok (.aload_n 0, 1) := by decide +kernel
theorem dX6_readPattern_38 : decode cX6_readPattern 38 = .ok (.getfield 19, 3) := by decide +kernel
theorem dX6_readPattern_41 : decode cX6_readPattern 41 = .ok (.invokespecial 258, 3) := by decide +kernel
theorem dX6_readPattern_44 : decode cX6_readPattern 44 = .ok (.areturn, 1) := by decide +kernel
theorem dX6_causeOf_0 : decode cX6_causeOf 0 = .ok (.aconst_null, 1) := by decide +kernel
theorem dX6_causeOf_1 : decode cX6_causeOf 1 = .ok (.astore_n 2, 1) := by decide +kernel
theorem dX6_causeOf_2 : decode cX6_causeOf 2 = .ok (.iconst 0, 1) := by decide +kernel
theorem dX6_causeOf_3 : decode cX6_causeOf 3 = .ok (.istore_n 3, 1) := by decide +kernel
theorem dX6_causeOf_4 : decode cX6_causeOf 4 = .ok (.iload_n 3, 1) := by decide +kernel
theorem dX6_causeOf_5 : decode cX6_causeOf 5 = .ok (.aload_n 0, 1) := by decide +kernel
theorem dX6_causeOf_6 : decode cX6_causeOf 6 = .ok (.getfield 33, 3) := by decide +kernel
theorem dX6_causeOf_9 : decode cX6_causeOf 9 = .ok (.invokevirtual 92, 3) := by decide +kernel
theorem dX6_causeOf_12 : decode cX6_causeOf 12 = .ok (.if_icmp .ge 46, 3) := by decide +kernel
theorem dX6_causeOf_15 : decode cX6_causeOf 15 = .ok (.aload_n 0, 1) := by decide +kernel
theorem dX6_causeOf_16 : decode cX6_causeOf 16 = .ok (.getfield 33, 3) := by decide +kernel
theorem dX6_causeOf_19 : decode cX6_causeOf 19 = .ok (.iload_n 3, 1) := by decide +kernel
theorem dX6_causeOf_20 : decode cX6_causeOf 20 = .ok (.invokevirtual 224, 3) := by decide +kernel
theorem dX6_causeOf_23 : decode cX6_causeOf 23 = .ok (.checkcast 101, 3) := by decide +kernel
theorem dX6_causeOf_26 : decode cX6_causeOf 26 = .ok (.astore 4, 2) := by decide +kernel
theorem dX6_causeOf_28 : decode cX6_causeOf 28 = .ok (.aload 4, 2) := by decide +kernel
theorem dX6_causeOf_30 : decode cX6_causeOf 30 = .ok (.getfield 261, 3) := by decide +kernel
theorem dX6_causeOf_33 : decode cX6_causeOf 33 = .ok (.aload_n 2, 1) := by decide +kernel
theorem dX6_causeOf_34 : decode cX6_causeOf 34 = .ok (.if_acmp .ne 18, 3) := by decide +kernel
theorem dX6_causeOf_37 : decode cX6_causeOf 37 = .ok (.aload 4, 2) := by decide +kernel
theorem dX6_causeOf_39 : decode cX6_causeOf 39 = .ok (.getfield 110, 3) := by decide +kernel
theorem dX6_causeOf_42 : decode cX6_causeOf 42 = .ok (.aload_n 1, 1) := by decide +kernel
theorem dX6_causeOf_43 : decode cX6_causeOf 43 = .ok (.invokevirtual 264, 3) := by decide +kernel
theorem dX6_causeOf_46 : decode cX6_causeOf 46 = .ok (.ifCond .eq 6, 3) := by decide +kernel
theorem dX6_causeOf_49 : decode cX6_causeOf 49 = .ok (.aload 4, 2) := by decide +kernel
theorem dX6_causeOf_51 : decode cX6_causeOf 51 = .ok (.astore_n 2, 1) := by decide +kernel
theorem dX6_causeOf_52 : decode cX6_causeOf 52 = .ok (.iinc 3 1, 3) := by decide +kernel
theorem dX6_causeOf_55 : decode cX6_causeOf 55 = .ok (.goto (-51), 3) := by decide +kernel
theorem dX6_causeOf_58 : decode cX6_causeOf 58 = .ok (.aload_n 2, 1) := by decide +kernel
theorem dX6_causeOf_59 : decode cX6_causeOf 59 = .ok (.areturn, 1) := by decide +kernel
theorem dX6_sortAnew_0 : decode cX6_sortAnew 0 = .ok (.iconst 0, 1) := by decide +kernel
theorem dX6_sortAnew_1 : decode cX6_sortAnew 1 = .ok (.istore_n 1, 1) := by decide +kernel
theorem dX6_sortAnew_2 : decode cX6_sortAnew 2 = .ok (.iconst 0, 1) := by decide +kernel
theorem dX6_sortAnew_3 : decode cX6_sortAnew 3 = .ok (.istore_n 2, 1) := by decide +kernel
theorem dX6_sortAnew_4 : decode cX6_sortAnew 4 = .ok (.iload_n 2, 1) := by decide +kernel
theorem dX6_sortAnew_5 : decode cX6_sortAnew 5 = .ok (.aload_n 0, 1) := by decide +kernel
theorem dX6_sortAnew_6 : decode cX6_sortAnew 6 = .ok (.getfield 37, 3) := by decide +kernel
theorem dX6_sortAnew_9 : decode cX6_sortAnew 9 = .ok (.invokevirtual 92, 3) := by decide +kernel
theorem dX6_sortAnew_12 : decode cX6_sortAnew 12 = .ok (.if_icmp .ge 85, 3) := by decide +kernel
theorem dX6_sortAnew_15 : decode cX6_sortAnew 15 = .ok (.aload_n 0, 1) := by decide +kernel
theorem dX6_sortAnew_16 : decode cX6_sortAnew 16 = .ok (.getfield 37, 3) := by decide +kernel
theorem dX6_sortAnew_19 : decode cX6_sortAnew 19 = .ok (.iload_n 2, 1) := by decide +kernel
theorem dX6_sortAnew_20 : decode cX6_sortAnew 20 = .ok (.invokevirtual 224, 3) := by decide +kernel
theorem dX6_sortAnew_23 : decode cX6_sortAnew 23 = .ok (.checkcast 120, 3) := by decide +kernel
theorem dX6_sortAnew_26 : decode cX6_sortAnew 26 = .ok (.astore_n 3, 1) := by decide +kernel
theorem dX6_sortAnew_27 : decode cX6_sortAnew 27 = .ok (.iconst 0, 1) := by decide +kernel
theorem dX6_sortAnew_28 : decode cX6_sortAnew 28 = .ok (.istore 4, 2) := by decide +kernel
theorem dX6_sortAnew_30 : decode cX6_sortAnew 30 = .ok (.iload 4, 2) := by decide +kernel
theorem dX6_sortAnew_32 : decode cX6_sortAnew 32 = .ok (.aload_n 3, 1) := by decide +kernel
theorem dX6_sortAnew_33 : decode cX6_sortAnew 33 = .ok (.getfield 155, 3) := by decide +kernel
theorem dX6_sortAnew_36 : decode cX6_sortAnew 36 = .ok (.invokevirtual 92, 3) := by decide +kernel
theorem dX6_sortAnew_39 : decode cX6_sortAnew 39 = .ok (.if_icmp .ge 52, 3) := by decide +kernel
theorem dX6_sortAnew_42 : decode cX6_sortAnew 42 = .ok (.aload_n 3, 1) := by decide +kernel
theorem dX6_sortAnew_43 : decode cX6_sortAnew 43 = .ok (.getfield 155, 3) := by decide +kernel
theorem dX6_sortAnew_46 : decode cX6_sortAnew 46 = .ok (.iload 4, 2) := by decide +kernel
theorem dX6_sortAnew_48 : decode cX6_sortAnew 48 = .ok (.invokevirtual 224, 3) := by decide +kernel
theorem dX6_sortAnew_51 : decode cX6_sortAnew 51 = .ok (.checkcast 135, 3) := by decide +kernel
theorem dX6_sortAnew_54 : decode cX6_sortAnew 54 = .ok (.astore 5, 2) := by decide +kernel
theorem dX6_sortAnew_56 : decode cX6_sortAnew 56 = .ok (.aload 5, 2) := by decide +kernel
theorem dX6_sortAnew_58 : decode cX6_sortAnew 58 = .ok (.invokevirtual 171, 3) := by decide +kernel
theorem dX6_sortAnew_61 : decode cX6_sortAnew 61 = .ok (.ifCond .ne 24, 3) := by decide +kernel
theorem dX6_sortAnew_64 : decode cX6_sortAnew 64 = .ok (.aload 5, 2) := by decide +kernel
theorem dX6_sortAnew_66 : decode cX6_sortAnew 66 = .ok (.aload_n 0, 1) := by decide +kernel
theorem dX6_sortAnew_67 : decode cX6_sortAnew 67 = .ok (.aload 5, 2) := by decide +kernel
theorem dX6_sortAnew_69 : decode cX6_sortAnew 69 = .ok (.invokevirtual 144, 3) := by decide +kernel
theorem dX6_sortAnew_72 : decode cX6_sortAnew 72 = .ok (.aload_n 3, 1) := by decide +kernel
theorem dX6_sortAnew_73 : decode cX6_sortAnew 73 = .ok (.getfield 148, 3) := by decide +kernel
theorem dX6_sortAnew_76 : decode cX6_sortAnew 76 = .ok (.invokevirtual 151, 3) := by decide +kernel
theorem dX6_sortAnew_79 : decode cX6_sortAnew 79 = .ok (.ifCond .eq 6, 3) := by decide +kernel
theorem dX6_sortAnew_82 : decode cX6_sortAnew 82 = .ok (.iinc 1 1, 3) := by decide +kernel
theorem dX6_sortAnew_85 : decode cX6_sortAnew 85 = .ok (.iinc 4 1, 3) := by decide +kernel
theorem dX6_sortAnew_88 : decode cX6_sortAnew 88 = .ok (.goto (-58), 3) := by decide +kernel
theorem dX6_sortAnew_91 : decode cX6_sortAnew 91 = .ok (.iinc 2 1, 3) := by decide +kernel
theorem dX6_sortAnew_94 : decode cX6_sortAnew 94 = .ok (.goto (-90), 3) := by decide +kernel
theorem dX6_sortAnew_97 : decode cX6_sortAnew 97 = .ok (.iload_n 1, 1) := by decide +kernel
theorem dX6_sortAnew_98 : decode cX6_sortAnew 98 = .ok (.ireturn, 1) := by decide +kernel
theorem dX6_work_0 : decode cX6_work 0 = .ok (.iconst 0, 1) := by decide +kernel
theorem dX6_work_1 : decode cX6_work 1 = .ok (.istore_n 2, 1) := by decide +kernel
theorem dX6_work_2 : decode cX6_work 2 = .ok (.iload_n 2, 1) := by decide +kernel
theorem dX6_work_3 : decode cX6_work 3 = .ok (.aload_n 0, 1) := by decide +kernel
theorem dX6_work_4 : decode cX6_work 4 = .ok (.getfield 40, 3) := by decide +kernel
theorem dX6_work_7 : decode cX6_work 7 = .ok (.iload_n 1, 1) := by decide +kernel
theorem dX6_work_8 : decode cX6_work 8 = .ok (.iaload, 1) := by decide +kernel
theorem dX6_work_9 : decode cX6_work 9 = .ok (.if_icmp .ge 28, 3) := by decide +kernel
theorem dX6_work_12 : decode cX6_work 12 = .ok (.aload_n 0, 1) := by decide +kernel
theorem dX6_work_13 : decode cX6_work 13 = .ok (.iload_n 1, 1) := by decide +kernel
theorem dX6_work_14 : decode cX6_work 14 = .ok (.invokevirtual 268, 3) := by decide +kernel
theorem dX6_work_17 : decode cX6_work 17 = .ok (.astore_n 3, 1) := by decide +kernel
theorem dX6_work_18 : decode cX6_work 18 = .ok (.aload_n 3, 1) := by decide +kernel
theorem dX6_work_19 : decode cX6_work 19 = .ok (.ifnonnull 4, 3) := by decide +kernel
theorem dX6_work_22 : decode cX6_work 22 = .ok (.return_, 1) := by decide +kernel
theorem dX6_work_23 : decode cX6_work 23 = .ok (.aload_n 3, 1) := by decide +kernel
theorem dX6_work_24 : decode cX6_work 24 = .ok (.aload_n 0, 1) := by decide +kernel
theorem dX6_work_25 : decode cX6_work 25 = .ok (.getfield 27, 3) := by decide +kernel
theorem dX6_work_28 : decode cX6_work 28 = .ok (.putfield 174, 3) := by decide +kernel
theorem dX6_work_31 : decode cX6_work 31 = .ok (.iinc 2 1, 3) := by decide +kernel
theorem dX6_work_34 : decode cX6_work 34 = .ok (.goto (-32), 3) := by decide +kernel
theorem dX6_work_37 : decode cX6_work 37 = .ok (.return_, 1) := by decide +kernel
theorem dX6_firstWaiting_0 : decode cX6_firstWaiting 0 = .ok (.aconst_null, 1) := by decide +kernel
theorem dX6_firstWaiting_1 : decode cX6_firstWaiting 1 = .ok (.astore_n 2, 1) := by decide +kernel
theorem dX6_firstWaiting_2 : decode cX6_firstWaiting 2 = .ok (.iconst 0, 1) := by decide +kernel
theorem dX6_firstWaiting_3 : decode cX6_firstWaiting 3 = .ok (.istore_n 3, 1) := by decide +kernel
theorem dX6_firstWaiting_4 : decode cX6_firstWaiting 4 = .ok (.iload_n 3, 1) := by decide +kernel
theorem dX6_firstWaiting_5 : decode cX6_firstWaiting 5 = .ok (.aload_n 0, 1) := by decide +kernel
theorem dX6_firstWaiting_6 : decode cX6_firstWaiting 6 = .ok (.getfield 37, 3) := by decide +kernel
theorem dX6_firstWaiting_9 : decode cX6_firstWaiting 9 = .ok (.invokevirtual 92, 3) := by decide +kernel
theorem dX6_firstWaiting_12 : decode cX6_firstWaiting 12 = .ok (.if_icmp .ge 81, 3) := by decide +kernel
theorem dX6_firstWaiting_15 : decode cX6_firstWaiting 15 = .ok (.aload_n 0, 1) := by decide +kernel
theorem dX6_firstWaiting_16 : decode cX6_firstWaiting 16 = .ok (.getfield 37, 3) := by decide +kernel
theorem dX6_firstWaiting_19 : decode cX6_firstWaiting 19 = .ok (.iload_n 3, 1) := by decide +kernel
theorem dX6_firstWaiting_20 : decode cX6_firstWaiting 20 = .ok (.invokevirtual 224, 3) := by decide +kernel
theorem dX6_firstWaiting_23 : decode cX6_firstWaiting 23 = .ok (.checkcast 120, 3) := by decide +kernel
theorem dX6_firstWaiting_26 : decode cX6_firstWaiting 26 = .ok (.getfield 155, 3) := by decide +kernel
theorem dX6_firstWaiting_29 : decode cX6_firstWaiting 29 = .ok (.astore 4, 2) := by decide +kernel
theorem dX6_firstWaiting_31 : decode cX6_firstWaiting 31 = .ok (.iconst 0, 1) := by decide +kernel
theorem dX6_firstWaiting_32 : decode cX6_firstWaiting 32 = .ok (.istore 5, 2) := by decide +kernel
theorem dX6_firstWaiting_34 : decode cX6_firstWaiting 34 = .ok (.iload 5, 2) := by decide +kernel
theorem dX6_firstWaiting_36 : decode cX6_firstWaiting 36 = .ok (.aload 4, 2) := by decide +kernel
theorem dX6_firstWaiting_38 : decode cX6_firstWaiting 38 = .ok (.invokevirtual 92, 3) := by decide +kernel
theorem dX6_firstWaiting_41 : decode cX6_firstWaiting 41 = .ok (.if_icmp .ge 46, 3) := by decide +kernel
theorem dX6_firstWaiting_44 : decode cX6_firstWaiting 44 = .ok (.aload 4, 2) := by decide +kernel
theorem dX6_firstWaiting_46 : decode cX6_firstWaiting 46 = .ok (.iload 5, 2) := by decide +kernel
theorem dX6_firstWaiting_48 : decode cX6_firstWaiting 48 = .ok (.invokevirtual 224, 3) := by decide +kernel
theorem dX6_firstWaiting_51 : decode cX6_firstWaiting 51 = .ok (.checkcast 135, 3) := by decide +kernel
theorem dX6_firstWaiting_54 : decode cX6_firstWaiting 54 = .ok (.astore 6, 2) := by decide +kernel
theorem dX6_firstWaiting_56 : decode cX6_firstWaiting 56 = .ok (.aload 6, 2) := by decide +kernel
theorem dX6_firstWaiting_58 : decode cX6_firstWaiting 58 = .ok (.iload_n 1, 1) := by decide +kernel
theorem dX6_firstWaiting_59 : decode cX6_firstWaiting 59 = .ok (.invokevirtual 228, 3) := by decide +kernel
theorem dX6_firstWaiting_62 : decode cX6_firstWaiting 62 = .ok (.ifCond .eq 19, 3) := by decide +kernel
theorem dX6_firstWaiting_65 : decode cX6_firstWaiting 65 = .ok (.aload_n 2, 1) := by decide +kernel
theorem dX6_firstWaiting_66 : decode cX6_firstWaiting 66 = .ok (.ifnull 12, 3) := by decide +kernel
theorem dX6_firstWaiting_69 : decode cX6_firstWaiting 69 = .ok (.aload 6, 2) := by decide +kernel
theorem dX6_firstWaiting_71 : decode cX6_firstWaiting 71 = .ok (.aload_n 2, 1) := by decide +kernel
theorem dX6_firstWaiting_72 : decode cX6_firstWaiting 72 = .ok (.invokevirtual 271, 3) := by decide +kernel
theorem dX6_firstWaiting_75 : decode cX6_firstWaiting 75 = .ok (.ifCond .eq 6, 3) := by decide +kernel
theorem dX6_firstWaiting_78 : decode cX6_firstWaiting 78 = .ok (.aload 6, 2) := by decide +kernel
theorem dX6_firstWaiting_80 : decode cX6_firstWaiting 80 = .ok (.astore_n 2, 1) := by decide +kernel
theorem dX6_firstWaiting_81 : decode cX6_firstWaiting 81 = .ok (.iinc 5 1, 3) := by decide +kernel
theorem dX6_firstWaiting_84 : decode cX6_firstWaiting 84 = .ok (.goto (-50), 3) := by decide +kernel
theorem dX6_firstWaiting_87 : decode cX6_firstWaiting 87 = .ok (.iinc 3 1, 3) := by decide +kernel
theorem dX6_firstWaiting_90 : decode cX6_firstWaiting 90 = .ok (.goto (-86), 3) := by decide +kernel
theorem dX6_firstWaiting_93 : decode cX6_firstWaiting 93 = .ok (.aload_n 2, 1) := by decide +kernel
theorem dX6_firstWaiting_94 : decode cX6_firstWaiting 94 = .ok (.areturn, 1) := by decide +kernel
theorem dX6_matter_0 : decode cX6_matter 0 = .ok (.aload_n 2, 1) := by decide +kernel
theorem dX6_matter_1 : decode cX6_matter 1 = .ok (.ifnonnull 5, 3) := by decide +kernel
theorem dX6_matter_4 : decode cX6_matter 4 = .ok (.iconst 0, 1) := by decide +kernel
theorem dX6_matter_5 : decode cX6_matter 5 = .ok (.ireturn, 1) := by decide +kernel
theorem dX6_matter_6 : decode cX6_matter 6 = .ok (.iconst 0, 1) := by decide +kernel
theorem dX6_matter_7 : decode cX6_matter 7 = .ok (.istore_n 3, 1) := by decide +kernel
theorem dX6_matter_8 : decode cX6_matter 8 = .ok (.iconst 0, 1) := by decide +kernel
theorem dX6_matter_9 : decode cX6_matter 9 = .ok (.istore 4, 2) := by decide +kernel
theorem dX6_matter_11 : decode cX6_matter 11 = .ok (.iload 4, 2) := by decide +kernel
theorem dX6_matter_13 : decode cX6_matter 13 = .ok (.aload_n 0, 1) := by decide +kernel
theorem dX6_matter_14 : decode cX6_matter 14 = .ok (.getfield 37, 3) := by decide +kernel
theorem dX6_matter_17 : decode cX6_matter 17 = .ok (.invokevirtual 92, 3) := by decide +kernel
theorem dX6_matter_20 : decode cX6_matter 20 = .ok (.if_icmp .ge 77, 3) := by decide +kernel
theorem dX6_matter_23 : decode cX6_matter 23 = .ok (.aload_n 0, 1) := by decide +kernel
theorem dX6_matter_24 : decode cX6_matter 24 = .ok (.getfield 37, 3) := by decide +kernel
theorem dX6_matter_27 : decode cX6_matter 27 = .ok (.iload 4, 2) := by decide +kernel
theorem dX6_matter_29 : decode cX6_matter 29 = .ok (.invokevirtual 224, 3) := by decide +kernel
theorem dX6_matter_32 : decode cX6_matter 32 = .ok (.checkcast 120, 3) := by decide +kernel
theorem dX6_matter_35 : decode cX6_matter 35 = .ok (.astore 5, 2) := by decide +kernel
theorem dX6_matter_37 : decode cX6_matter 37 = .ok (.iconst 0, 1) := by decide +kernel
theorem dX6_matter_38 : decode cX6_matter 38 = .ok (.istore 6, 2) := by decide +kernel
theorem dX6_matter_40 : decode cX6_matter 40 = .ok (.iload 6, 2) := by decide +kernel
theorem dX6_matter_42 : decode cX6_matter 42 = .ok (.aload 5, 2) := by decide +kernel
theorem dX6_matter_44 : decode cX6_matter 44 = .ok (.getfield 155, 3) := by decide +kernel
theorem dX6_matter_47 : decode cX6_matter 47 = .ok (.invokevirtual 92, 3) := by decide +kernel
theorem dX6_matter_50 : decode cX6_matter 50 = .ok (.if_icmp .ge 41, 3) := by decide +kernel
theorem dX6_matter_53 : decode cX6_matter 53 = .ok (.aload 5, 2) := by decide +kernel
theorem dX6_matter_55 : decode cX6_matter 55 = .ok (.getfield 187, 3) := by decide +kernel
theorem dX6_matter_58 : decode cX6_matter 58 = .ok (.iload_n 1, 1) := by decide +kernel
theorem dX6_matter_59 : decode cX6_matter 59 = .ok (.if_icmp .ne 26, 3) := by decide +kernel
theorem dX6_matter_62 : decode cX6_matter 62 = .ok (.aload 5, 2) := by decide +kernel
theorem dX6_matter_64 : decode cX6_matter 64 = .ok (.getfield 155, 3) := by decide +kernel
theorem dX6_matter_67 : decode cX6_matter 67 = .ok (.iload 6, 2) := by decide +kernel
theorem dX6_matter_69 : decode cX6_matter 69 = .ok (.invokevirtual 224, 3) := by decide +kernel
theorem dX6_matter_72 : decode cX6_matter 72 = .ok (.checkcast 135, 3) := by decide +kernel
theorem dX6_matter_75 : decode cX6_matter 75 = .ok (.getfield 177, 3) := by decide +kernel
theorem dX6_matter_78 : decode cX6_matter 78 = .ok (.aload_n 2, 1) := by decide +kernel
theorem dX6_matter_79 : decode cX6_matter 79 = .ok (.if_acmp .ne 6, 3) := by decide +kernel
theorem dX6_matter_82 : decode cX6_matter 82 = .ok (.iinc 3 1, 3) := by decide +kernel
theorem dX6_matter_85 : decode cX6_matter 85 = .ok (.iinc 6 1, 3) := by decide +kernel
theorem dX6_matter_88 : decode cX6_matter 88 = .ok (.goto (-48), 3) := by decide +kernel
theorem dX6_matter_91 : decode cX6_matter 91 = .ok (.iinc 4 1, 3) := by decide +kernel
theorem dX6_matter_94 : decode cX6_matter 94 = .ok (.goto (-83), 3) := by decide +kernel
theorem dX6_matter_97 : decode cX6_matter 97 = .ok (.iload_n 3, 1) := by decide +kernel
theorem dX6_matter_98 : decode cX6_matter 98 = .ok (.ireturn, 1) := by decide +kernel
theorem dX6_fewestTemplates_0 : decode cX6_fewestTemplates 0 = .ok (.iload_n 1, 1) := by decide +kernel
theorem dX6_fewestTemplates_1 : decode cX6_fewestTemplates 1 = .ok (.iconst (-1), 1) := by decide +kernel
theorem dX6_fewestTemplates_2 : decode cX6_fewestTemplates 2 = .ok (.if_icmp .ne 5, 3) := by decide +kernel
theorem dX6_fewestTemplates_5 : decode cX6_fewestTemplates 5 = .ok (.iconst (-1), 1) := by decide +kernel
theorem dX6_fewestTemplates_6 : decode cX6_fewestTemplates 6 = .ok (.ireturn, 1) := by decide +kernel
theorem dX6_fewestTemplates_7 : decode cX6_fewestTemplates 7 = .ok (.iconst (-1), 1) := by decide +kernel
theorem dX6_fewestTemplates_8 : decode cX6_fewestTemplates 8 = .ok (.istore_n 2, 1) := by decide +kernel
theorem dX6_fewestTemplates_9 : decode cX6_fewestTemplates 9 = .ok (.bipush 11, 2) := by decide +kernel
theorem dX6_fewestTemplates_11 : decode cX6_fewestTemplates 11 = .ok (.istore_n 3, 1) := by decide +kernel
theorem dX6_fewestTemplates_12 : decode cX6_fewestTemplates 12 = .ok (.iconst 1, 1) := by decide +kernel
theorem dX6_fewestTemplates_13 : decode cX6_fewestTemplates 13 = .ok (.istore 4, 2) := by decide +kernel
theorem dX6_fewestTemplates_15 : decode cX6_fewestTemplates 15 = .ok (.iload 4, 2) := by decide +kernel
theorem dX6_fewestTemplates_17 : decode cX6_fewestTemplates 17 = .ok (.iconst 1, 1) := by decide +kernel
theorem dX6_fewestTemplates_18 : decode cX6_fewestTemplates 18 = .ok (.aload_n 0, 1) := by decide +kernel
theorem dX6_fewestTemplates_19 : decode cX6_fewestTemplates 19 = .ok (.getfield 47, 3) := by decide +kernel
theorem dX6_fewestTemplates_22 : decode cX6_fewestTemplates 22 = .ok (.ishl, 1) := by decide +kernel
theorem dX6_fewestTemplates_23 : decode cX6_fewestTemplates 23 = .ok (.if_icmp .ge 41, 3) := by decide +kernel
theorem dX6_fewestTemplates_26 : decode cX6_fewestTemplates 26 = .ok (.iload 4, 2) := by decide +kernel
theorem dX6_fewestTemplates_28 : decode cX6_fewestTemplates 28 = .ok (.invokestatic 274, 3) := by decide +kernel
theorem dX6_fewestTemplates_31 : decode cX6_fewestTemplates 31 = .ok (.istore 5, 2) := by decide +kernel
theorem dX6_fewestTemplates_33 : decode cX6_fewestTemplates 33 = .ok (.iload 5, 2) := by decide +kernel
theorem dX6_fewestTemplates_35 : decode cX6_fewestTemplates 35 = .ok (.iload_n 3, 1) := by decide +kernel
theorem dX6_fewestTemplates_36 : decode cX6_fewestTemplates 36 = .ok (.if_icmp .ge 22, 3) := by decide +kernel
theorem dX6_fewestTemplates_39 : decode cX6_fewestTemplates 39 = .ok (.iload_n 1, 1) := by decide +kernel
theorem dX6_fewestTemplates_40 : decode cX6_fewestTemplates 40 = .ok (.aload_n 0, 1) := by decide +kernel
theorem dX6_fewestTemplates_41 : decode cX6_fewestTemplates 41 = .ok (.iload 4, 2) := by decide +kernel
theorem dX6_fewestTemplates_43 : decode cX6_fewestTemplates 43 = .ok (.invokevirtual 279, 3) := by decide +kernel
theorem dX6_fewestTemplates_46 : decode cX6_fewestTemplates 46 = .ok (.iconst (-1), 1) := by decide +kernel
theorem dX6_fewestTemplates_47 : decode cX6_fewestTemplates 47 = .ok (.ixor, 1) := by decide +kernel
theorem dX6_fewestTemplates_48 : decode cX6_fewestTemplates 48 = .ok (.iand, 1) := by decide +kernel
theorem dX6_fewestTemplates_49 : decode cX6_fewestTemplates 49 = .ok (.ifCond .ne 9, 3) := by decide +kernel
theorem dX6_fewestTemplates_52 : decode cX6_fewestTemplates 52 = .ok (.iload 4, 2) := by decide +kernel
theorem dX6_fewestTemplates_54 : decode cX6_fewestTemplates 54 = .ok (.istore_n 2, 1) := by decide +kernel
theorem dX6_fewestTemplates_55 : decode cX6_fewestTemplates 55 = .ok (.iload 5, 2) := by decide +kernel
theorem dX6_fewestTemplates_57 : decode cX6_fewestTemplates 57 = .ok (.istore_n 3, 1) := by decide +kernel
theorem dX6_fewestTemplates_58 : decode cX6_fewestTemplates 58 = .ok (.iinc 4 1, 3) := by decide +kernel
theorem dX6_fewestTemplates_61 : decode cX6_fewestTemplates 61 = .ok (.goto (-46), 3) := by decide +kernel
theorem dX6_fewestTemplates_64 : decode cX6_fewestTemplates 64 = .ok (.iload_n 2, 1) := by decide +kernel
theorem dX6_fewestTemplates_65 : decode cX6_fewestTemplates 65 = .ok (.ireturn, 1) := by decide +kernel
theorem dX6_causesOfSet_0 : decode cX6_causesOfSet 0 = .ok (.iconst 0, 1) := by decide +kernel
theorem dX6_causesOfSet_1 : decode cX6_causesOfSet 1 = .ok (.istore_n 2, 1) := by decide +kernel
theorem dX6_causesOfSet_2 : decode cX6_causesOfSet 2 = .ok (.iconst 0, 1) := by decide +kernel
theorem dX6_causesOfSet_3 : decode cX6_causesOfSet 3 = .ok (.istore_n 3, 1) := by decide +kernel
theorem dX6_causesOfSet_4 : decode cX6_causesOfSet 4 = .ok (.iload_n 3, 1) := by decide +kernel
theorem dX6_causesOfSet_5 : decode cX6_causesOfSet 5 = .ok (.aload_n 0, 1) := by decide +kernel
theorem dX6_causesOfSet_6 : decode cX6_causesOfSet 6 = .ok (.getfield 47, 3) := by decide +kernel
theorem dX6_causesOfSet_9 : decode cX6_causesOfSet 9 = .ok (.if_icmp .ge 36, 3) := by decide +kernel
theorem dX6_causesOfSet_12 : decode cX6_causesOfSet 12 = .ok (.iload_n 3, 1) := by decide +kernel
theorem dX6_causesOfSet_13 : decode cX6_causesOfSet 13 = .ok (.aload_n 0, 1) := by decide +kernel
theorem dX6_causesOfSet_14 : decode cX6_causesOfSet 14 = .ok (.getfield 44, 3) := by decide +kernel
theorem dX6_causesOfSet_17 : decode cX6_causesOfSet 17 = .ok (.arraylength, 1) := by decide +kernel
theorem dX6_causesOfSet_18 : decode cX6_causesOfSet 18 = .ok (.if_icmp .ge 27, 3) := by decide +kernel
theorem dX6_causesOfSet_21 : decode cX6_causesOfSet 21 = .ok (.iload_n 1, 1) := by decide +kernel
theorem dX6_causesOfSet_22 : decode cX6_causesOfSet 22 = .ok (.iload_n 3, 1) := by decide +kernel
theorem dX6_causesOfSet_23 : decode cX6_causesOfSet 23 = .ok (.ishr, 1) := by decide +kernel
theorem dX6_causesOfSet_24 : decode cX6_causesOfSet 24 = .ok (.iconst 1, 1) := by decide +kernel
theorem dX6_causesOfSet_25 : decode cX6_causesOfSet 25 = .ok (.iand, 1) := by decide +kernel
theorem dX6_causesOfSet_26 : decode cX6_causesOfSet 26 = .ok (.iconst 1, 1) := by decide +kernel
theorem dX6_causesOfSet_27 : decode cX6_causesOfSet 27 = .ok (.if_icmp .ne 12, 3) := by decide +kernel
theorem dX6_causesOfSet_30 : decode cX6_causesOfSet 30 = .ok (.iload_n 2, 1) := by decide +kernel
theorem dX6_causesOfSet_31 : decode cX6_causesOfSet 31 = .ok (.aload_n 0, 1) := by decide +kernel
theorem dX6_causesOfSet_32 : decode cX6_causesOfSet 32 = .ok (.getfield 44, 3) := by decide +kernel
theorem dX6_causesOfSet_35 : decode cX6_causesOfSet 35 = .ok (.iload_n 3, 1) := by decide +kernel
theorem dX6_causesOfSet_36 : decode cX6_causesOfSet 36 = .ok (.iaload, 1) := by decide +kernel
theorem dX6_causesOfSet_37 : decode cX6_causesOfSet 37 = .ok (.ior, 1) := by decide +kernel
theorem dX6_causesOfSet_38 : decode cX6_causesOfSet 38 = .ok (.istore_n 2, 1) := by decide +kernel
theorem dX6_causesOfSet_39 : decode cX6_causesOfSet 39 = .ok (.iinc 3 1, 3) := by decide +kernel
theorem dX6_causesOfSet_42 : decode cX6_causesOfSet 42 = .ok (.goto (-38), 3) := by decide +kernel
theorem dX6_causesOfSet_45 : decode cX6_causesOfSet 45 = .ok (.iload_n 2, 1) := by decide +kernel
theorem dX6_causesOfSet_46 : decode cX6_causesOfSet 46 = .ok (.ireturn, 1) := by decide +kernel
theorem dX6_fillDueInDays_0 : decode cX6_fillDueInDays 0 = .ok (.aload_n 0, 1) := by decide +kernel
theorem dX6_fillDueInDays_1 : decode cX6_fillDueInDays 1 = .ok (.getfield 53, 3) := by decide +kernel
theorem dX6_fillDueInDays_4 : decode cX6_fillDueInDays 4 = .ok (.iconst 0, 1) := by decide +kernel
theorem dX6_fillDueInDays_5 : decode cX6_fillDueInDays 5 = .ok (.invokestatic 282, 3) := by decide +kernel
theorem dX6_fillDueInDays_8 : decode cX6_fillDueInDays 8 = .ok (.iconst 0, 1) := by decide +kernel
theorem dX6_fillDueInDays_9 : decode cX6_fillDueInDays 9 = .ok (.istore_n 2, 1) := by decide +kernel
theorem dX6_fillDueInDays_10 : decode cX6_fillDueInDays 10 = .ok (.iconst 0, 1) := by decide +kernel
theorem dX6_fillDueInDays_11 : decode cX6_fillDueInDays 11 = .ok (.istore_n 3, 1) := by decide +kernel
theorem dX6_fillDueInDays_12 : decode cX6_fillDueInDays 12 = .ok (.iload_n 3, 1) := by decide +kernel
theorem dX6_fillDueInDays_13 : decode cX6_fillDueInDays 13 = .ok (.aload_n 0, 1) := by decide +kernel
theorem dX6_fillDueInDays_14 : decode cX6_fillDueInDays 14 = .ok (.getfield 37, 3) := by decide +kernel
theorem dX6_fillDueInDays_17 : decode cX6_fillDueInDays 17 = .ok (.invokevirtual 92, 3) := by decide +kernel
theorem dX6_fillDueInDays_20 : decode cX6_fillDueInDays 20 = .ok (.if_icmp .ge 106, 3) := by decide +kernel
theorem dX6_fillDueInDays_23 : decode cX6_fillDueInDays 23 = .ok (.aload_n 0, 1) := by decide +kernel
theorem dX6_fillDueInDays_24 : decode cX6_fillDueInDays 24 = .ok (.getfield 37, 3) := by decide +kernel
theorem dX6_fillDueInDays_27 : decode cX6_fillDueInDays 27 = .ok (.iload_n 3, 1) := by decide +kernel
theorem dX6_fillDueInDays_28 : decode cX6_fillDueInDays 28 = .ok (.invokevirtual 224, 3) := by decide +kernel
theorem dX6_fillDueInDays_31 : decode cX6_fillDueInDays 31 = .ok (.checkcast 120, 3) := by decide +kernel
theorem dX6_fillDueInDays_34 : decode cX6_fillDueInDays 34 = .ok (.getfield 155, 3) := by decide +kernel
theorem dX6_fillDueInDays_37 : decode cX6_fillDueInDays 37 = .ok (.astore 4, 2) := by decide +kernel
theorem dX6_fillDueInDays_39 : decode cX6_fillDueInDays 39 = .ok (.iconst 0, 1) := by decide +kernel
theorem dX6_fillDueInDays_40 : decode cX6_fillDueInDays 40 = .ok (.istore 5, 2) := by decide +kernel
theorem dX6_fillDueInDays_42 : decode cX6_fillDueInDays 42 = .ok (.iload 5, 2) := by decide +kernel
theorem dX6_fillDueInDays_44 : decode cX6_fillDueInDays 44 = .ok (.aload 4, 2) := by decide +kernel
theorem dX6_fillDueInDays_46 : decode cX6_fillDueInDays 46 = .ok (.invokevirtual 92, 3) := by decide +kernel
theorem dX6_fillDueInDays_49 : decode cX6_fillDueInDays 49 = .ok (.if_icmp .ge 71, 3) := by decide +kernel
theorem dX6_fillDueInDays_52 : decode cX6_fillDueInDays 52 = .ok (.aload 4, 2) := by decide +kernel
theorem dX6_fillDueInDays_54 : decode cX6_fillDueInDays 54 = .ok (.iload 5, 2) := by decide +kernel
theorem dX6_fillDueInDays_56 : decode cX6_fillDueInDays 56 = .ok (.invokevirtual 224, 3) := by decide +kernel
theorem dX6_fillDueInDays_59 : decode cX6_fillDueInDays 59 = .ok (.checkcast 135, 3) := by decide +kernel
theorem dX6_fillDueInDays_62 : decode cX6_fillDueInDays 62 = .ok (.astore 6, 2) := by decide +kernel
theorem dX6_fillDueInDays_64 : decode cX6_fillDueInDays 64 = .ok (.aload 6, 2) := by decide +kernel
theorem dX6_fillDueInDays_66 : decode cX6_fillDueInDays 66 = .ok (.iload_n 1, 1) := by decide +kernel
theorem dX6_fillDueInDays_67 : decode cX6_fillDueInDays 67 = .ok (.invokevirtual 228, 3) := by decide +kernel
theorem dX6_fillDueInDays_70 : decode cX6_fillDueInDays 70 = .ok (.ifCond .eq 44, 3) := by decide +kernel
theorem dX6_fillDueInDays_73 : decode cX6_fillDueInDays 73 = .ok (.iinc 2 1, 3) := by decide +kernel
theorem dX6_fillDueInDays_76 : decode cX6_fillDueInDays 76 = .ok (.aload 6, 2) := by decide +kernel
theorem dX6_fillDueInDays_78 : decode cX6_fillDueInDays 78 = .ok (.getfield 184, 3) := by decide +kernel
theorem dX6_fillDueInDays_81 : decode cX6_fillDueInDays 81 = .ok (.aload_n 0, 1) := by decide +kernel
theorem dX6_fillDueInDays_82 : decode cX6_fillDueInDays 82 = .ok (.getfield 27, 3) := by decide +kernel
theorem dX6_fillDueInDays_85 : decode cX6_fillDueInDays 85 = .ok (.isub, 1) := by decide +kernel
theorem dX6_fillDueInDays_86 : decode cX6_fillDueInDays 86 = .ok (.istore 7, 2) := by decide +kernel
theorem dX6_fillDueInDays_88 : decode cX6_fillDueInDays 88 = .ok (.iload 7, 2) := by decide +kernel
theorem dX6_fillDueInDays_90 : decode cX6_fillDueInDays 90 = .ok (.ifCond .le 24, 3) := by decide +kernel
theorem dX6_fillDueInDays_93 : decode cX6_fillDueInDays 93 = .ok (.iload 7, 2) := by decide +kernel
theorem dX6_fillDueInDays_95 : decode cX6_fillDueInDays 95 = .ok (.aload_n 0, 1) := by decide +kernel
theorem dX6_fillDueInDays_96 : decode cX6_fillDueInDays 96 = .ok (.getfield 53, 3) := by decide +kernel
theorem dX6_fillDueInDays_99 : decode cX6_fillDueInDays 99 = .ok (.arraylength, 1) := by decide +kernel
theorem dX6_fillDueInDays_100 : decode cX6_fillDueInDays 100 = .ok (.if_icmp .ge 14, 3) := by decide +kernel
theorem dX6_fillDueInDays_103 : decode cX6_fillDueInDays 103 = .ok (.aload_n 0, 1) := by decide +kernel
theorem dX6_fillDueInDays_104 : decode cX6_fillDueInDays 104 = .ok (.getfield 53, 3) := by decide +kernel
theorem dX6_fillDueInDays_107 : decode cX6_fillDueInDays 107 = .ok (.iload 7, 2) := by decide +kernel
theorem dX6_fillDueInDays_109 : decode cX6_fillDueInDays 109 = .ok (.dup2, 1) := by decide +kernel
theorem dX6_fillDueInDays_110 : decode cX6_fillDueInDays 110 = .ok (.iaload, 1) := by decide +kernel
theorem dX6_fillDueInDays_111 : decode cX6_fillDueInDays 111 = .ok (.iconst 1, 1) := by decide +kernel
theorem dX6_fillDueInDays_112 : decode cX6_fillDueInDays 112 = .ok (.iadd, 1) := by decide +kernel
theorem dX6_fillDueInDays_113 : decode cX6_fillDueInDays 113 = .ok (.iastore, 1) := by decide +kernel
theorem dX6_fillDueInDays_114 : decode cX6_fillDueInDays 114 = .ok (.iinc 5 1, 3) := by decide +kernel
theorem dX6_fillDueInDays_117 : decode cX6_fillDueInDays 117 = .ok (.goto (-75), 3) := by decide +kernel
theorem dX6_fillDueInDays_120 : decode cX6_fillDueInDays 120 = .ok (.iinc 3 1, 3) := by decide +kernel
theorem dX6_fillDueInDays_123 : decode cX6_fillDueInDays 123 = .ok (.goto (-111), 3) := by decide +kernel
theorem dX6_fillDueInDays_126 : decode cX6_fillDueInDays 126 = .ok (.iload_n 2, 1) := by decide +kernel
theorem dX6_fillDueInDays_127 : decode cX6_fillDueInDays 127 = .ok (.ireturn, 1) := by decide +kernel
theorem dX6_fillCountOfDay_0 : decode cX6_fillCountOfDay 0 = .ok (.aload_n 0, 1) := by decide +kernel
theorem dX6_fillCountOfDay_1 : decode cX6_fillCountOfDay 1 = .ok (.getfield 50, 3) := by decide +kernel
theorem dX6_fillCountOfDay_4 : decode cX6_fillCountOfDay 4 = .ok (.iconst 0, 1) := by decide +kernel
theorem dX6_fillCountOfDay_5 : decode cX6_fillCountOfDay 5 = .ok (.invokestatic 282, 3) := by decide +kernel
theorem dX6_fillCountOfDay_8 : decode cX6_fillCountOfDay 8 = .ok (.iconst 0, 1) := by decide +kernel
theorem dX6_fillCountOfDay_9 : decode cX6_fillCountOfDay 9 = .ok (.istore_n 2, 1) := by decide +kernel
theorem dX6_fillCountOfDay_10 : decode cX6_fillCountOfDay 10 = .ok (.iload_n 2, 1) := by decide +kernel
theorem dX6_fillCountOfDay_11 : decode cX6_fillCountOfDay 11 = .ok (.aload_n 0, 1) := by decide +kernel
theorem dX6_fillCountOfDay_12 : decode cX6_fillCountOfDay 12 = .ok (.getfield 37, 3) := by decide +kernel
theorem dX6_fillCountOfDay_15 : decode cX6_fillCountOfDay 15 = .ok (.invokevirtual 92, 3) := by decide +kernel
theorem dX6_fillCountOfDay_18 : decode cX6_fillCountOfDay 18 = .ok (.if_icmp .ge 57, 3) := by decide +kernel
theorem dX6_fillCountOfDay_21 : decode cX6_fillCountOfDay 21 = .ok (.aload_n 0, 1) := by decide +kernel
theorem dX6_fillCountOfDay_22 : decode cX6_fillCountOfDay 22 = .ok (.getfield 37, 3) := by decide +kernel
theorem dX6_fillCountOfDay_25 : decode cX6_fillCountOfDay 25 = .ok (.iload_n 2, 1) := by decide +kernel
theorem dX6_fillCountOfDay_26 : decode cX6_fillCountOfDay 26 = .ok (.invokevirtual 224, 3) := by decide +kernel
theorem dX6_fillCountOfDay_29 : decode cX6_fillCountOfDay 29 = .ok (.checkcast 120, 3) := by decide +kernel
theorem dX6_fillCountOfDay_32 : decode cX6_fillCountOfDay 32 = .ok (.astore_n 3, 1) := by decide +kernel
theorem dX6_fillCountOfDay_33 : decode cX6_fillCountOfDay 33 = .ok (.aload_n 3, 1) := by decide +kernel
theorem dX6_fillCountOfDay_34 : decode cX6_fillCountOfDay 34 = .ok (.getfield 148, 3) := by decide +kernel
theorem dX6_fillCountOfDay_37 : decode cX6_fillCountOfDay 37 = .ok (.ifCond .lt 32, 3) := by decide +kernel
theorem dX6_fillCountOfDay_40 : decode cX6_fillCountOfDay 40 = .ok (.aload_n 3, 1) := by decide +kernel
theorem dX6_fillCountOfDay_41 : decode cX6_fillCountOfDay 41 = .ok (.getfield 148, 3) := by decide +kernel
theorem dX6_fillCountOfDay_44 : decode cX6_fillCountOfDay 44 = .ok (.aload_n 0, 1) := by decide +kernel
theorem dX6_fillCountOfDay_45 : decode cX6_fillCountOfDay 45 = .ok (.getfield 50, 3) := by decide +kernel
theorem dX6_fillCountOfDay_48 : decode cX6_fillCountOfDay 48 = .ok (.arraylength, 1) := by decide +kernel
theorem dX6_fillCountOfDay_49 : decode cX6_fillCountOfDay 49 = .ok (.if_icmp .ge 20, 3) := by decide +kernel
theorem dX6_fillCountOfDay_52 : decode cX6_fillCountOfDay 52 = .ok (.aload_n 0, 1) := by decide +kernel
theorem dX6_fillCountOfDay_53 : decode cX6_fillCountOfDay 53 = .ok (.getfield 50, 3) := by decide +kernel
theorem dX6_fillCountOfDay_56 : decode cX6_fillCountOfDay 56 = .ok (.aload_n 3, 1) := by decide +kernel
theorem dX6_fillCountOfDay_57 : decode cX6_fillCountOfDay 57 = .ok (.getfield 148, 3) := by decide +kernel
theorem dX6_fillCountOfDay_60 : decode cX6_fillCountOfDay 60 = .ok (.dup2, 1) := by decide +kernel
theorem dX6_fillCountOfDay_61 : decode cX6_fillCountOfDay 61 = .ok (.iaload, 1) := by decide +kernel
theorem dX6_fillCountOfDay_62 : decode cX6_fillCountOfDay 62 = .ok (.aload_n 3, 1) := by decide +kernel
theorem dX6_fillCountOfDay_63 : decode cX6_fillCountOfDay 63 = .ok (.aload_n 1, 1) := by decide +kernel
theorem dX6_fillCountOfDay_64 : decode cX6_fillCountOfDay 64 = .ok (.invokevirtual 288, 3) := by decide +kernel
theorem dX6_fillCountOfDay_67 : decode cX6_fillCountOfDay 67 = .ok (.iadd, 1) := by decide +kernel
theorem dX6_fillCountOfDay_68 : decode cX6_fillCountOfDay 68 = .ok (.iastore, 1) := by decide +kernel
theorem dX6_fillCountOfDay_69 : decode cX6_fillCountOfDay 69 = .ok (.iinc 2 1, 3) := by decide +kernel
theorem dX6_fillCountOfDay_72 : decode cX6_fillCountOfDay 72 = .ok (.goto (-62), 3) := by decide +kernel
theorem dX6_fillCountOfDay_75 : decode cX6_fillCountOfDay 75 = .ok (.return_, 1) := by decide +kernel
theorem dX6_isRare_0 : decode cX6_isRare 0 = .ok (.iload_n 1, 1) := by decide +kernel
theorem dX6_isRare_1 : decode cX6_isRare 1 = .ok (.ifCond .lt 22, 3) := by decide +kernel
theorem dX6_isRare_4 : decode cX6_isRare 4 = .ok (.iload_n 1, 1) := by decide +kernel
theorem dX6_isRare_5 : decode cX6_isRare 5 = .ok (.aload_n 0, 1) := by decide +kernel
theorem dX6_isRare_6 : decode cX6_isRare 6 = .ok (.getfield 50, 3) := by decide +kernel
theorem dX6_isRare_9 : decode cX6_isRare 9 = .ok (.arraylength, 1) := by decide +kernel
theorem dX6_isRare_10 : decode cX6_isRare 10 = .ok (.if_icmp .ge 13, 3) := by decide +kernel
theorem dX6_isRare_13 : decode cX6_isRare 13 = .ok (.aload_n 0, 1) := by decide +kernel
theorem dX6_isRare_14 : decode cX6_isRare 14 = .ok (.getfield 50, 3) := by decide +kernel
theorem dX6_isRare_17 : decode cX6_isRare 17 = .ok (.iload_n 1, 1) := by decide +kernel
theorem dX6_isRare_18 : decode cX6_isRare 18 = .ok (.iaload, 1) := by decide +kernel
theorem dX6_isRare_19 : decode cX6_isRare 19 = .ok (.iconst 2, 1) := by decide +kernel
theorem dX6_isRare_20 : decode cX6_isRare 20 = .ok (.if_icmp .ge 5, 3) := by decide +kernel
theorem dX6_isRare_23 : decode cX6_isRare 23 = .ok (.iconst 0, 1) := by decide +kernel
theorem dX6_isRare_24 : decode cX6_isRare 24 = .ok (.ireturn, 1) := by decide +kernel
theorem dX6_isRare_25 : decode cX6_isRare 25 = .ok (.iconst 0, 1) := by decide +kernel
theorem dX6_isRare_26 : decode cX6_isRare 26 = .ok (.istore_n 2, 1) := by decide +kernel
theorem dX6_isRare_27 : decode cX6_isRare 27 = .ok (.iconst 0, 1) := by decide +kernel
theorem dX6_isRare_28 : decode cX6_isRare 28 = .ok (.istore_n 3, 1) := by decide +kernel
theorem dX6_isRare_29 : decode cX6_isRare 29 = .ok (.iload_n 3, 1) := by decide +kernel
theorem dX6_isRare_30 : decode cX6_isRare 30 = .ok (.iload_n 1, 1) := by decide +kernel
theorem dX6_isRare_31 : decode cX6_isRare 31 = .ok (.if_icmp .ge 27, 3) := by decide +kernel
theorem dX6_isRare_34 : decode cX6_isRare 34 = .ok (.aload_n 0, 1) := by decide +kernel
theorem dX6_isRare_35 : decode cX6_isRare 35 = .ok (.getfield 50, 3) := by decide +kernel
theorem dX6_isRare_38 : decode cX6_isRare 38 = .ok (.iload_n 3, 1) := by decide +kernel
theorem dX6_isRare_39 : decode cX6_isRare 39 = .ok (.iaload, 1) := by decide +kernel
theorem dX6_isRare_40 : decode cX6_isRare 40 = .ok (.aload_n 0, 1) := by decide +kernel
theorem dX6_isRare_41 : decode cX6_isRare 41 = .ok (.getfield 50, 3) := by decide +kernel
theorem dX6_isRare_44 : decode cX6_isRare 44 = .ok (.iload_n 1, 1) := by decide +kernel
theorem dX6_isRare_45 : decode cX6_isRare 45 = .ok (.iaload, 1) := by decide +kernel
theorem dX6_isRare_46 : decode cX6_isRare 46 = .ok (.if_icmp .lt 6, 3) := by decide +kernel
theorem dX6_isRare_49 : decode cX6_isRare 49 = .ok (.iinc 2 1, 3) := by decide +kernel
theorem dX6_isRare_52 : decode cX6_isRare 52 = .ok (.iinc 3 1, 3) := by decide +kernel
theorem dX6_isRare_55 : decode cX6_isRare 55 = .ok (.goto (-26), 3) := by decide +kernel
theorem dX6_isRare_58 : decode cX6_isRare 58 = .ok (.iload_n 2, 1) := by decide +kernel
theorem dX6_isRare_59 : decode cX6_isRare 59 = .ok (.iconst 1, 1) := by decide +kernel
theorem dX6_isRare_60 : decode cX6_isRare 60 = .ok (.iadd, 1) := by decide +kernel
theorem dX6_isRare_61 : decode cX6_isRare 61 = .ok (.bipush 20, 2) := by decide +kernel
theorem dX6_isRare_63 : decode cX6_isRare 63 = .ok (.imul, 1) := by decide +kernel
theorem dX6_isRare_64 : decode cX6_isRare 64 = .ok (.iload_n 1, 1) := by decide +kernel
theorem dX6_isRare_65 : decode cX6_isRare 65 = .ok (.iconst 1, 1) := by decide +kernel
theorem dX6_isRare_66 : decode cX6_isRare 66 = .ok (.iadd, 1) := by decide +kernel
theorem dX6_isRare_67 : decode cX6_isRare 67 = .ok (.if_icmp .gt 7, 3) := by decide +kernel
theorem dX6_isRare_70 : decode cX6_isRare 70 = .ok (.iconst 1, 1) := by decide +kernel
theorem dX6_isRare_71 : decode cX6_isRare 71 = .ok (.goto 4, 3) := by decide +kernel
theorem dX6_isRare_74 : decode cX6_isRare 74 = .ok (.iconst 0, 1) := by decide +kernel
theorem dX6_isRare_75 : decode cX6_isRare 75 = .ok (.ireturn, 1) := by decide +kernel
theorem dX6_closedLetters_0 : decode cX6_closedLetters 0 = .ok (.iconst 0, 1) := by decide +kernel
theorem dX6_closedLetters_1 : decode cX6_closedLetters 1 = .ok (.istore_n 1, 1) := by decide +kernel
theorem dX6_closedLetters_2 : decode cX6_closedLetters 2 = .ok (.iconst 0, 1) := by decide +kernel
theorem dX6_closedLetters_3 : decode cX6_closedLetters 3 = .ok (.istore_n 2, 1) := by decide +kernel
theorem dX6_closedLetters_4 : decode cX6_closedLetters 4 = .ok (.iload_n 2, 1) := by decide +kernel
theorem dX6_closedLetters_5 : decode cX6_closedLetters 5 = .ok (.aload_n 0, 1) := by decide +kernel
theorem dX6_closedLetters_6 : decode cX6_closedLetters 6 = .ok (.getfield 37, 3) := by decide +kernel
theorem dX6_closedLetters_9 : decode cX6_closedLetters 9 = .ok (.invokevirtual 92, 3) := by decide +kernel
theorem dX6_closedLetters_12 : decode cX6_closedLetters 12 = .ok (.if_icmp .ge 29, 3) := by decide +kernel
theorem dX6_closedLetters_15 : decode cX6_closedLetters 15 = .ok (.aload_n 0, 1) := by decide +kernel
theorem dX6_closedLetters_16 : decode cX6_closedLetters 16 = .ok (.getfield 37, 3) := by decide +kernel
theorem dX6_closedLetters_19 : decode cX6_closedLetters 19 = .ok (.iload_n 2, 1) := by decide +kernel
theorem dX6_closedLetters_20 : decode cX6_closedLetters 20 = .ok (.invokevirtual 224, 3) := by decide +kernel
theorem dX6_closedLetters_23 : decode cX6_closedLetters 23 = .ok (.checkcast 120, 3) := by decide +kernel
theorem dX6_closedLetters_26 : decode cX6_closedLetters 26 = .ok (.invokevirtual 203, 3) := by decide +kernel
theorem dX6_closedLetters_29 : decode cX6_closedLetters 29 = .ok (.ifCond .eq 6, 3) := by decide +kernel
theorem dX6_closedLetters_32 : decode cX6_closedLetters 32 = .ok (.iinc 1 1, 3) := by decide +kernel
theorem dX6_closedLetters_35 : decode cX6_closedLetters 35 = .ok (.iinc 2 1, 3) := by decide +kernel
theorem dX6_closedLetters_38 : decode cX6_closedLetters 38 = .ok (.goto (-34), 3) := by decide +kernel
theorem dX6_closedLetters_41 : decode cX6_closedLetters 41 = .ok (.iload_n 1, 1) := by decide +kernel
theorem dX6_closedLetters_42 : decode cX6_closedLetters 42 = .ok (.ireturn, 1) := by decide +kernel
theorem dX6_pointsCounted_0 : decode cX6_pointsCounted 0 = .ok (.iconst 0, 1) := by decide +kernel
theorem dX6_pointsCounted_1 : decode cX6_pointsCounted 1 = .ok (.istore_n 2, 1) := by decide +kernel
theorem dX6_pointsCounted_2 : decode cX6_pointsCounted 2 = .ok (.iconst 0, 1) := by decide +kernel
theorem dX6_pointsCounted_3 : decode cX6_pointsCounted 3 = .ok (.istore_n 3, 1) := by decide +kernel
theorem dX6_pointsCounted_4 : decode cX6_pointsCounted 4 = .ok (.iload_n 3, 1) := by decide +kernel
theorem dX6_pointsCounted_5 : decode cX6_pointsCounted 5 = .ok (.aload_n 0, 1) := by decide +kernel
theorem dX6_pointsCounted_6 : decode cX6_pointsCounted 6 = .ok (.getfield 37, 3) := by decide +kernel
theorem dX6_pointsCounted_9 : decode cX6_pointsCounted 9 = .ok (.invokevirtual 92, 3) := by decide +kernel
theorem dX6_pointsCounted_12 : decode cX6_pointsCounted 12 = .ok (.if_icmp .ge 64, 3) := by decide +kernel
theorem dX6_pointsCounted_15 : decode cX6_pointsCounted 15 = .ok (.aload_n 0, 1) := by decide +kernel
theorem dX6_pointsCounted_16 : decode cX6_pointsCounted 16 = .ok (.getfield 37, 3) := by decide +kernel
theorem dX6_pointsCounted_19 : decode cX6_pointsCounted 19 = .ok (.iload_n 3, 1) := by decide +kernel
theorem dX6_pointsCounted_20 : decode cX6_pointsCounted 20 = .ok (.invokevirtual 224, 3) := by decide +kernel
theorem dX6_pointsCounted_23 : decode cX6_pointsCounted 23 = .ok (.checkcast 120, 3) := by decide +kernel
theorem dX6_pointsCounted_26 : decode cX6_pointsCounted 26 = .ok (.getfield 155, 3) := by decide +kernel
theorem dX6_pointsCounted_29 : decode cX6_pointsCounted 29 = .ok (.astore 4, 2) := by decide +kernel
theorem dX6_pointsCounted_31 : decode cX6_pointsCounted 31 = .ok (.iconst 0, 1) := by decide +kernel
theorem dX6_pointsCounted_32 : decode cX6_pointsCounted 32 = .ok (.istore 5, 2) := by decide +kernel
theorem dX6_pointsCounted_34 : decode cX6_pointsCounted 34 = .ok (.iload 5, 2) := by decide +kernel
theorem dX6_pointsCounted_36 : decode cX6_pointsCounted 36 = .ok (.aload 4, 2) := by decide +kernel
theorem dX6_pointsCounted_38 : decode cX6_pointsCounted 38 = .ok (.invokevirtual 92, 3) := by decide +kernel
theorem dX6_pointsCounted_41 : decode cX6_pointsCounted 41 = .ok (.if_icmp .ge 29, 3) := by decide +kernel
theorem dX6_pointsCounted_44 : decode cX6_pointsCounted 44 = .ok (.aload 4, 2) := by decide +kernel
theorem dX6_pointsCounted_46 : decode cX6_pointsCounted 46 = .ok (.iload 5, 2) := by decide +kernel
theorem dX6_pointsCounted_48 : decode cX6_pointsCounted 48 = .ok (.invokevirtual 224, 3) := by decide +kernel
theorem dX6_pointsCounted_51 : decode cX6_pointsCounted 51 = .ok (.checkcast 135, 3) := by decide +kernel
theorem dX6_pointsCounted_54 : decode cX6_pointsCounted 54 = .ok (.iload_n 1, 1) := by decide +kernel
theorem dX6_pointsCounted_55 : decode cX6_pointsCounted 55 = .ok (.invokevirtual 292, 3) := by decide +kernel
theorem dX6_pointsCounted_58 : decode cX6_pointsCounted 58 = .ok (.ifCond .eq 6, 3) := by decide +kernel
theorem dX6_pointsCounted_61 : decode cX6_pointsCounted 61 = .ok (.iinc 2 1, 3) := by decide +kernel
theorem dX6_pointsCounted_64 : decode cX6_pointsCounted 64 = .ok (.iinc 5 1, 3) := by decide +kernel
theorem dX6_pointsCounted_67 : decode cX6_pointsCounted 67 = .ok (.goto (-33), 3) := by decide +kernel
theorem dX6_pointsCounted_70 : decode cX6_pointsCounted 70 = .ok (.iinc 3 1, 3) := by decide +kernel
theorem dX6_pointsCounted_73 : decode cX6_pointsCounted 73 = .ok (.goto (-69), 3) := by decide +kernel
theorem dX6_pointsCounted_76 : decode cX6_pointsCounted 76 = .ok (.iload_n 2, 1) := by decide +kernel
theorem dX6_pointsCounted_77 : decode cX6_pointsCounted 77 = .ok (.ireturn, 1) := by decide +kernel
end
section
theorem dX7_init_0 : decode cX7_init 0 = .ok (.aload_n 0, 1) := by decide +kernel
theorem dX7_init_1 : decode cX7_init 1 = .ok (.invokespecial 1, 3) := by decide +kernel
theorem dX7_init_4 : decode cX7_init 4 = .ok (.aload_n 0, 1) := by decide +kernel
theorem dX7_init_5 : decode cX7_init 5 = .ok (.bipush 12, 2) := by decide +kernel
theorem dX7_init_7 : decode cX7_init 7 = .ok (.newarray .int, 2) := by decide +kernel
theorem dX7_init_9 : decode cX7_init 9 = .ok (.putfield 9, 3) := by decide +kernel
theorem dX7_init_12 : decode cX7_init 12 = .ok (.aload_n 0, 1) := by decide +kernel
theorem dX7_init_13 : decode cX7_init 13 = .ok (.bipush 12, 2) := by decide +kernel
theorem dX7_init_15 : decode cX7_init 15 = .ok (.newarray .int, 2) := by decide +kernel
theorem dX7_init_17 : decode cX7_init 17 = .ok (.putfield 13, 3) := by decide +kernel
theorem dX7_init_20 : decode cX7_init 20 = .ok (.aload_n 0, 1) := by decide +kernel
theorem dX7_init_21 : decode cX7_init 21 = .ok (.bipush 12, 2) := by decide +kernel
theorem dX7_init_23 : decode cX7_init 23 = .ok (.newarray .int, 2) := by decide +kernel
theorem dX7_init_25 : decode cX7_init 25 = .ok (.putfield 16, 3) := by decide +kernel
theorem dX7_init_28 : decode cX7_init 28 = .ok (.aload_n 0, 1) := by decide +kernel
theorem dX7_init_29 : decode cX7_init 29 = .ok (.bipush 12, 2) := by decide +kernel
theorem dX7_init_31 : decode cX7_init 31 = .ok (.newarray .boolean, 2) := by decide +kernel
theorem dX7_init_33 : decode cX7_init 33 = .ok (.putfield 19, 3) := by decide +kernel
theorem dX7_init_36 : decode cX7_init 36 = .ok (.aload_n 0, 1) := by decide +kernel
theorem dX7_init_37 : decode cX7_init 37 = .ok (.bipush 13, 2) := by decide +kernel
theorem dX7_init_39 : decode cX7_init 39 = .ok (.newarray .int, 2) := by decide +kernel
theorem dX7_init_41 : decode cX7_init 41 = .ok (.putfield 23, 3) := by decide +kernel
theorem dX7_init_44 : decode cX7_init 44 = .ok (.aload_n 0, 1) := by decide +kernel
theorem dX7_init_45 : decode cX7_init 45 = .ok (.sipush 1872, 3) := by decide +kernel
theorem dX7_init_48 : decode cX7_init 48 = .ok (.newarray .byte, 2) := by decide +kernel
theorem dX7_init_50 : decode cX7_init 50 = .ok (.putfield 26, 3) := by decide +kernel
theorem dX7_init_53 : decode cX7_init 53 = .ok (.aload_n 0, 1) := by decide +kernel
theorem dX7_init_54 : decode cX7_init 54 = .ok (.sipush 156, 3) := by decide +kernel
theorem dX7_init_57 : decode cX7_init 57 = .ok (.newarray .int, 2) := by decide +kernel
theorem dX7_init_59 : decode cX7_init 59 = .ok (.putfield 30, 3) := by decide +kernel
theorem dX7_init_62 : decode cX7_init 62 = .ok (.aload_n 0, 1) := by decide +kernel
theorem dX7_init_63 : decode cX7_init 63 = .ok (.sipush 156, 3) := by decide +kernel
theorem dX7_init_66 : decode cX7_init 66 = .ok (.newarray .boolean, 2) := by decide +kernel
theorem dX7_init_68 : decode cX7_init 68 = .ok (.putfield 33, 3) := by decide +kernel
theorem dX7_init_71 : decode cX7_init 71 = .ok (.aload_n 0, 1) := by decide +kernel
theorem dX7_init_72 : decode cX7_init 72 = .ok (.sipush 156, 3) := by decide +kernel
theorem dX7_init_75 : decode cX7_init 75 = .ok (.newarray .boolean, 2) := by decide +kernel
theorem dX7_init_77 : decode cX7_init 77 = .ok (.putfield 36, 3) := by decide +kernel
theorem dX7_init_80 : decode cX7_init 80 = .ok (.aload_n 0, 1) := by decide +kernel
theorem dX7_init_81 : decode cX7_init 81 = .ok (.iconst 4, 1) := by decide +kernel
theorem dX7_init_82 : decode cX7_init 82 = .ok (.newarray .int, 2) := by decide +kernel
theorem dX7_init_84 : decode cX7_init 84 = .ok (.dup, 1) := by decide +kernel
theorem dX7_init_85 : decode cX7_init 85 = .ok (.iconst 0, 1) := by decide +kernel
theorem dX7_init_86 : decode cX7_init 86 = .ok (.iconst 5, 1) := by decide +kernel
theorem dX7_init_87 : decode cX7_init 87 = .ok (.iastore, 1) := by decide +kernel
theorem dX7_init_88 : decode cX7_init 88 = .ok (.dup, 1) := by decide +kernel
theorem dX7_init_89 : decode cX7_init 89 = .ok (.iconst 1, 1) := by decide +kernel
theorem dX7_init_90 : decode cX7_init 90 = .ok (.iconst 5, 1) := by decide +kernel
theorem dX7_init_91 : decode cX7_init 91 = .ok (.iastore, 1) := by decide +kernel
theorem dX7_init_92 : decode cX7_init 92 = .ok (.dup, 1) := by decide +kernel
theorem dX7_init_93 : decode cX7_init 93 = .ok (.iconst 2, 1) := by decide +kernel
theorem dX7_init_94 : decode cX7_init 94 = .ok (.iconst 5, 1) := by decide +kernel
theorem dX7_init_95 : decode cX7_init 95 = .ok (.iastore, 1) := by decide +kernel
theorem dX7_init_96 : decode cX7_init 96 = .ok (.dup, 1) := by decide +kernel
theorem dX7_init_97 : decode cX7_init 97 = .ok (.iconst 3, 1) := by decide +kernel
theorem dX7_init_98 : decode cX7_init 98 = .ok (.iconst 5, 1) := by decide +kernel
theorem dX7_init_99 : decode cX7_init 99 = .ok (.iastore, 1) := by decide +kernel
theorem dX7_init_100 : decode cX7_init 100 = .ok (.putfield 39, 3) := by decide +kernel
theorem dX7_init_103 : decode cX7_init 103 = .ok (.aload_n 0, 1) := by decide +kernel
theorem dX7_init_104 : decode cX7_init 104 = .ok (.bipush 80, 2) := by decide +kernel
theorem dX7_init_106 : decode cX7_init 106 = .ok (.newarray .int, 2) := by decide +kernel
theorem dX7_init_108 : decode cX7_init 108 = .ok (.putfield 42, 3) := by decide +kernel
theorem dX7_init_111 : decode cX7_init 111 = .ok (.aload_n 0, 1) := by decide +kernel
theorem dX7_init_112 : decode cX7_init 112 = .ok (.bipush 80, 2) := by decide +kernel
theorem dX7_init_114 : decode cX7_init 114 = .ok (.newarray .int, 2) := by decide +kernel
theorem dX7_init_116 : decode cX7_init 116 = .ok (.putfield 45, 3) := by decide +kernel
theorem dX7_init_119 : decode cX7_init 119 = .ok (.aload_n 0, 1) := by decide +kernel
theorem dX7_init_120 : decode cX7_init 120 = .ok (.bipush 81, 2) := by decide +kernel
theorem dX7_init_122 : decode cX7_init 122 = .ok (.newarray .int, 2) := by decide +kernel
theorem dX7_init_124 : decode cX7_init 124 = .ok (.putfield 48, 3) := by decide +kernel
theorem dX7_init_127 : decode cX7_init 127 = .ok (.aload_n 0, 1) := by decide +kernel
theorem dX7_init_128 : decode cX7_init 128 = .ok (.bipush 81, 2) := by decide +kernel
theorem dX7_init_130 : decode cX7_init 130 = .ok (.newarray .int, 2) := by decide +kernel
theorem dX7_init_132 : decode cX7_init 132 = .ok (.putfield 51, 3) := by decide +kernel
theorem dX7_init_135 : decode cX7_init 135 = .ok (.aload_n 0, 1) := by decide +kernel
theorem dX7_init_136 : decode cX7_init 136 = .ok (.sipush 32400, 3) := by decide +kernel
theorem dX7_init_139 : decode cX7_init 139 = .ok (.newarray .byte, 2) := by decide +kernel
theorem dX7_init_141 : decode cX7_init 141 = .ok (.putfield 54, 3) := by decide +kernel
theorem dX7_init_144 : decode cX7_init 144 = .ok (.aload_n 0, 1) := by decide +kernel
theorem dX7_init_145 : decode cX7_init 145 = .ok (.sipush 4860, 3) := by decide +kernel
theorem dX7_init_148 : decode cX7_init 148 = .ok (.newarray .int, 2) := by decide +kernel
theorem dX7_init_150 : decode cX7_init 150 = .ok (.putfield 57, 3) := by decide +kernel
theorem dX7_init_153 : decode cX7_init 153 = .ok (.aload_n 0, 1) := by decide +kernel
theorem dX7_init_154 : decode cX7_init 154 = .ok (.sipush 4860, 3) := by decide +kernel
theorem dX7_init_157 : decode cX7_init 157 = .ok (.newarray .int, 2) := by decide +kernel
theorem dX7_init_159 : decode cX7_init 159 = .ok (.putfield 60, 3) := by decide +kernel
theorem dX7_init_162 : decode cX7_init 162 = .ok (.aload_n 0, 1) := by decide +kernel
theorem dX7_init_163 : decode cX7_init 163 = .ok (.sipush 4860, 3) := by decide +kernel
theorem dX7_init_166 : decode cX7_init 166 = .ok (.newarray .int, 2) := by decide +kernel
theorem dX7_init_168 : decode cX7_init 168 = .ok (.putfield 63, 3) := by decide +kernel
theorem dX7_init_171 : decode cX7_init 171 = .ok (.aload_n 0, 1) := by decide +kernel
theorem dX7_init_172 : decode cX7_init 172 = .ok (.sipush 480, 3) := by decide +kernel
theorem dX7_init_175 : decode cX7_init 175 = .ok (.newarray .int, 2) := by decide +kernel
theorem dX7_init_177 : decode cX7_init 177 = .ok (.putfield 66, 3) := by decide +kernel
theorem dX7_init_180 : decode cX7_init 180 = .ok (.aload_n 0, 1) := by decide +kernel
theorem dX7_init_181 : decode cX7_init 181 = .ok (.sipush 480, 3) := by decide +kernel
theorem dX7_init_184 : decode cX7_init 184 = .ok (.newarray .int, 2) := by decide +kernel
theorem dX7_init_186 : decode cX7_init 186 = .ok (.putfield 69, 3) := by decide +kernel
theorem dX7_init_189 : decode cX7_init 189 = .ok (.aload_n 0, 1) := by decide +kernel
theorem dX7_init_190 : decode cX7_init 190 = .ok (.sipush 480, 3) := by decide +kernel
theorem dX7_init_193 : decode cX7_init 193 = .ok (.newarray .int, 2) := by decide +kernel
theorem dX7_init_195 : decode cX7_init 195 = .ok (.putfield 72, 3) := by decide +kernel
theorem dX7_init_198 : decode cX7_init 198 = .ok (.aload_n 0, 1) := by decide +kernel
theorem dX7_init_199 : decode cX7_init 199 = .ok (.bipush 10, 2) := by decide +kernel
theorem dX7_init_201 : decode cX7_init 201 = .ok (.newarray .int, 2) := by decide +kernel
theorem dX7_init_203 : decode cX7_init 203 = .ok (.putfield 75, 3) := by decide +kernel
theorem dX7_init_206 : decode cX7_init 206 = .ok (.aload_n 0, 1) := by decide +kernel
theorem dX7_init_207 : decode cX7_init 207 = .ok (.sipush 400, 3) := by decide +kernel
theorem dX7_init_210 : decode cX7_init 210 = .ok (.newarray .byte, 2) := by decide +kernel
theorem dX7_init_212 : decode cX7_init 212 = .ok (.putfield 78, 3) := by decide +kernel
theorem dX7_init_215 : decode cX7_init 215 = .ok (.aload_n 0, 1) := by decide +kernel
theorem dX7_init_216 : decode cX7_init 216 = .ok (.iconst (-1), 1) := by decide +kernel
theorem dX7_init_217 : decode cX7_init 217 = .ok (.putfield 81, 3) := by decide +kernel
theorem dX7_init_220 : decode cX7_init 220 = .ok (.aload_n 0, 1) := by decide +kernel
theorem dX7_init_221 : decode cX7_init 221 = .ok (.iconst 5, 1) := by decide +kernel
theorem dX7_init_222 : decode cX7_init 222 = .ok (.newarray .int, 2) := by decide +kernel
theorem dX7_init_224 : decode cX7_init 224 = .ok (.putfield 85, 3) := by decide +kernel
theorem dX7_init_227 : decode cX7_init 227 = .ok (.aload_n 0, 1) := by decide +kernel
theorem dX7_init_228 : decode cX7_init 228 = .ok (.sipush 401, 3) := by decide +kernel
theorem dX7_init_231 : decode cX7_init 231 = .ok (.newarray .int, 2) := by decide +kernel
theorem dX7_init_233 : decode cX7_init 233 = .ok (.putfield 88, 3) := by decide +kernel
theorem dX7_init_236 : decode cX7_init 236 = .ok (.return_, 1) := by decide +kernel
theorem dX7_thrown_0 : decode cX7_thrown 0 = .ok (.aload_n 0, 1) := by decide +kernel
theorem dX7_thrown_1 : decode cX7_thrown 1 = .ok (.getfield 91, 3) := by decide +kernel
theorem dX7_thrown_4 : decode cX7_thrown 4 = .ok (.ireturn, 1) := by decide +kernel
theorem dX7_throwsIf_0 : decode cX7_throwsIf 0 = .ok (.iload_n 1, 1) := by decide +kernel
theorem dX7_throwsIf_1 : decode cX7_throwsIf 1 = .ok (.ifCond .eq 8, 3) := by decide +kernel
theorem dX7_throwsIf_4 : decode cX7_throwsIf 4 = .ok (.aload_n 0, 1) := by decide +kernel
theorem dX7_throwsIf_5 : decode cX7_throwsIf 5 = .ok (.iload_n 2, 1) := by decide +kernel
theorem dX7_throwsIf_6 : decode cX7_throwsIf 6 = .ok (.putfield 91, 3) := by decide +kernel
theorem dX7_throwsIf_9 : decode cX7_throwsIf 9 = .ok (.iload_n 1, 1) := by decide +kernel
theorem dX7_throwsIf_10 : decode cX7_throwsIf 10 = .ok (.ireturn, 1) := by decide +kernel
theorem dX7_in_0 : decode cX7_in 0 = .ok (.iload_n 0, 1) := by decide +kernel
theorem dX7_in_1 : decode cX7_in 1 = .ok (.iload_n 1, 1) := by decide +kernel
theorem dX7_in_2 : decode cX7_in 2 = .ok (.if_icmp .lt 12, 3) := by decide +kernel
theorem dX7_in_5 : decode cX7_in 5 = .ok (.iload_n 0, 1) := by decide +kernel
theorem dX7_in_6 : decode cX7_in 6 = .ok (.iload_n 2, 1) := by decide +kernel
theorem dX7_in_7 : decode cX7_in 7 = .ok (.if_icmp .gt 7, 3) := by decide +kernel
theorem dX7_in_10 : decode cX7_in 10 = .ok (.iconst 1, 1) := by decide +kernel
theorem dX7_in_11 : decode cX7_in 11 = .ok (.goto 4, 3) := by decide +kernel
theorem dX7_in_14 : decode cX7_in 14 = .ok (.iconst 0, 1) := by decide +kernel
theorem dX7_in_15 : decode cX7_in 15 = .ok (.ireturn, 1) := by decide +kernel
theorem dX7_noCause_0 : decode cX7_noCause 0 = .ok (.iload_n 1, 1) := by decide +kernel
theorem dX7_noCause_1 : decode cX7_noCause 1 = .ok (.iconst 0, 1) := by decide +kernel
theorem dX7_noCause_2 : decode cX7_noCause 2 = .ok (.aload_n 0, 1) := by decide +kernel
theorem dX7_noCause_3 : decode cX7_noCause 3 = .ok (.getfield 94, 3) := by decide +kernel
theorem dX7_noCause_6 : decode cX7_noCause 6 = .ok (.iconst 1, 1) := by decide +kernel
theorem dX7_noCause_7 : decode cX7_noCause 7 = .ok (.isub, 1) := by decide +kernel
theorem dX7_noCause_8 : decode cX7_noCause 8 = .ok (.invokestatic 97, 3) := by decide +kernel
theorem dX7_noCause_11 : decode cX7_noCause 11 = .ok (.ifCond .ne 7, 3) := by decide +kernel
theorem dX7_noCause_14 : decode cX7_noCause 14 = .ok (.iconst 1, 1) := by decide +kernel
theorem dX7_noCause_15 : decode cX7_noCause 15 = .ok (.goto 4, 3) := by decide +kernel
theorem dX7_noCause_18 : decode cX7_noCause 18 = .ok (.iconst 0, 1) := by decide +kernel
theorem dX7_noCause_19 : decode cX7_noCause 19 = .ok (.ireturn, 1) := by decide +kernel
theorem dX7_noLetter_0 : decode cX7_noLetter 0 = .ok (.iload_n 1, 1) := by decide +kernel
theorem dX7_noLetter_1 : decode cX7_noLetter 1 = .ok (.iconst 0, 1) := by decide +kernel
theorem dX7_noLetter_2 : decode cX7_noLetter 2 = .ok (.aload_n 0, 1) := by decide +kernel
theorem dX7_noLetter_3 : decode cX7_noLetter 3 = .ok (.getfield 101, 3) := by decide +kernel
theorem dX7_noLetter_6 : decode cX7_noLetter 6 = .ok (.iconst 1, 1) := by decide +kernel
theorem dX7_noLetter_7 : decode cX7_noLetter 7 = .ok (.isub, 1) := by decide +kernel
theorem dX7_noLetter_8 : decode cX7_noLetter 8 = .ok (.invokestatic 97, 3) := by decide +kernel
theorem dX7_noLetter_11 : decode cX7_noLetter 11 = .ok (.ifCond .ne 7, 3) := by decide +kernel
theorem dX7_noLetter_14 : decode cX7_noLetter 14 = .ok (.iconst 1, 1) := by decide +kernel
theorem dX7_noLetter_15 : decode cX7_noLetter 15 = .ok (.goto 4, 3) := by decide +kernel
theorem dX7_noLetter_18 : decode cX7_noLetter 18 = .ok (.iconst 0, 1) := by decide +kernel
theorem dX7_noLetter_19 : decode cX7_noLetter 19 = .ok (.ireturn, 1) := by decide +kernel
theorem dX7_noPoint_0 : decode cX7_noPoint 0 = .ok (.aload_n 0, 1) := by decide +kernel
theorem dX7_noPoint_1 : decode cX7_noPoint 1 = .ok (.iload_n 1, 1) := by decide +kernel
theorem dX7_noPoint_2 : decode cX7_noPoint 2 = .ok (.invokevirtual 104, 3) := by decide +kernel
theorem dX7_noPoint_5 : decode cX7_noPoint 5 = .ok (.ifCond .ne 19, 3) := by decide +kernel
theorem dX7_noPoint_8 : decode cX7_noPoint 8 = .ok (.iload_n 2, 1) := by decide +kernel
theorem dX7_noPoint_9 : decode cX7_noPoint 9 = .ok (.iconst 0, 1) := by decide +kernel
theorem dX7_noPoint_10 : decode cX7_noPoint 10 = .ok (.aload_n 0, 1) := by decide +kernel
theorem dX7_noPoint_11 : decode cX7_noPoint 11 = .ok (.getfield 48, 3) := by decide +kernel
theorem dX7_noPoint_14 : decode cX7_noPoint 14 = .ok (.iload_n 1, 1) := by decide +kernel
theorem dX7_noPoint_15 : decode cX7_noPoint 15 = .ok (.iaload, 1) := by decide +kernel
theorem dX7_noPoint_16 : decode cX7_noPoint 16 = .ok (.iconst 1, 1) := by decide +kernel
theorem dX7_noPoint_17 : decode cX7_noPoint 17 = .ok (.isub, 1) := by decide +kernel
theorem dX7_noPoint_18 : decode cX7_noPoint 18 = .ok (.invokestatic 97, 3) := by decide +kernel
theorem dX7_noPoint_21 : decode cX7_noPoint 21 = .ok (.ifCond .ne 7, 3) := by decide +kernel
theorem dX7_noPoint_24 : decode cX7_noPoint 24 = .ok (.iconst 1, 1) := by decide +kernel
theorem dX7_noPoint_25 : decode cX7_noPoint 25 = .ok (.goto 4, 3) := by decide +kernel
theorem dX7_noPoint_28 : decode cX7_noPoint 28 = .ok (.iconst 0, 1) := by decide +kernel
theorem dX7_noPoint_29 : decode cX7_noPoint 29 = .ok (.ireturn, 1) := by decide +kernel
theorem dX7_noDesk_0 : decode cX7_noDesk 0 = .ok (.iload_n 0, 1) := by decide +kernel
theorem dX7_noDesk_1 : decode cX7_noDesk 1 = .ok (.iconst 0, 1) := by decide +kernel
theorem dX7_noDesk_2 : decode cX7_noDesk 2 = .ok (.iconst 3, 1) := by decide +kernel
theorem dX7_noDesk_3 : decode cX7_noDesk 3 = .ok (.invokestatic 97, 3) := by decide +kernel
theorem dX7_noDesk_6 : decode cX7_noDesk 6 = .ok (.ifCond .ne 7, 3) := by decide +kernel
theorem dX7_noDesk_9 : decode cX7_noDesk 9 = .ok (.iconst 1, 1) := by decide +kernel
theorem dX7_noDesk_10 : decode cX7_noDesk 10 = .ok (.goto 4, 3) := by decide +kernel
theorem dX7_noDesk_13 : decode cX7_noDesk 13 = .ok (.iconst 0, 1) := by decide +kernel
theorem dX7_noDesk_14 : decode cX7_noDesk 14 = .ok (.ireturn, 1) := by decide +kernel
theorem dX7_feed_0 : decode cX7_feed 0 = .ok (.aload_n 0, 1) := by decide +kernel
theorem dX7_feed_1 : decode cX7_feed 1 = .ok (.iconst 0, 1) := by decide +kernel
theorem dX7_feed_2 : decode cX7_feed 2 = .ok (.putfield 91, 3) := by decide +kernel
theorem dX7_feed_5 : decode cX7_feed 5 = .ok (.aload_n 0, 1) := by decide +kernel
theorem dX7_feed_6 : decode cX7_feed 6 = .ok (.getfield 108, 3) := by decide +kernel
theorem dX7_feed_9 : decode cX7_feed 9 = .ok (.bipush 20, 2) := by decide +kernel
theorem dX7_feed_11 : decode cX7_feed 11 = .ok (.iadd, 1) := by decide +kernel
theorem dX7_feed_12 : decode cX7_feed 12 = .ok (.sipush 400, 3) := by decide +kernel
theorem dX7_feed_15 : decode cX7_feed 15 = .ok (.if_icmp .le 5, 3) := by decide +kernel
theorem dX7_feed_18 : decode cX7_feed 18 = .ok (.iconst (-1), 1) := by decide +kernel
theorem dX7_feed_19 : decode cX7_feed 19 = .ok (.ireturn, 1) := by decide +kernel
theorem dX7_feed_20 : decode cX7_feed 20 = .ok (.aload_n 0, 1) := by decide +kernel
theorem dX7_feed_21 : decode cX7_feed 21 = .ok (.getfield 85, 3) := by decide +kernel
theorem dX7_feed_24 : decode cX7_feed 24 = .ok (.iconst 0, 1) := by decide +kernel
theorem dX7_feed_25 : decode cX7_feed 25 = .ok (.iload_n 1, 1) := by decide +kernel
theorem dX7_feed_26 : decode cX7_feed 26 = .ok (.iastore, 1) := by decide +kernel
theorem dX7_feed_27 : decode cX7_feed 27 = .ok (.aload_n 0, 1) := by decide +kernel
theorem dX7_feed_28 : decode cX7_feed 28 = .ok (.getfield 85, 3) := by decide +kernel
theorem dX7_feed_31 : decode cX7_feed 31 = .ok (.iconst 1, 1) := by decide +kernel
theorem dX7_feed_32 : decode cX7_feed 32 = .ok (.iload_n 2, 1) := by decide +kernel
theorem dX7_feed_33 : decode cX7_feed 33 = .ok (.iastore, 1) := by decide +kernel
theorem dX7_feed_34 : decode cX7_feed 34 = .ok (.aload_n 0, 1) := by decide +kernel
theorem dX7_feed_35 : decode cX7_feed 35 = .ok (.getfield 85, 3) := by decide +kernel
theorem dX7_feed_38 : decode cX7_feed 38 = .ok (.iconst 2, 1) := by decide +kernel
theorem dX7_feed_39 : decode cX7_feed 39 = .ok (.iload_n 3, 1) := by decide +kernel
theorem dX7_feed_40 : decode cX7_feed 40 = .ok (.iastore, 1) := by decide +kernel
theorem dX7_feed_41 : decode cX7_feed 41 = .ok (.aload_n 0, 1) := by decide +kernel
theorem dX7_feed_42 : decode cX7_feed 42 = .ok (.getfield 85, 3) := by decide +kernel
theorem dX7_feed_45 : decode cX7_feed 45 = .ok (.iconst 3, 1) := by decide +kernel
theorem dX7_feed_46 : decode cX7_feed 46 = .ok (.iload 4, 2) := by decide +kernel
theorem dX7_feed_48 : decode cX7_feed 48 = .ok (.iastore, 1) := by decide +kernel
theorem dX7_feed_49 : decode cX7_feed 49 = .ok (.aload_n 0, 1) := by decide +kernel
theorem dX7_feed_50 : decode cX7_feed 50 = .ok (.getfield 85, 3) := by decide +kernel
theorem dX7_feed_53 : decode cX7_feed 53 = .ok (.iconst 4, 1) := by decide +kernel
theorem dX7_feed_54 : decode cX7_feed 54 = .ok (.iload 5, 2) := by decide +kernel
theorem dX7_feed_56 : decode cX7_feed 56 = .ok (.iastore, 1) := by decide +kernel
theorem dX7_feed_57 : decode cX7_feed 57 = .ok (.iconst 0, 1) := by decide +kernel
theorem dX7_feed_58 : decode cX7_feed 58 = .ok (.istore 6, 2) := by decide +kernel
theorem dX7_feed_60 : decode cX7_feed 60 = .ok (.iload 6, 2) := by decide +kernel
theorem dX7_feed_62 : decode cX7_feed 62 = .ok (.bipush 20, 2) := by decide +kernel
theorem dX7_feed_64 : decode cX7_feed 64 = .ok (.if_icmp .ge 42, 3) := by decide +kernel
theorem dX7_feed_67 : decode cX7_feed 67 = .ok (.aload_n 0, 1) := by decide +kernel
theorem dX7_feed_68 : decode cX7_feed 68 = .ok (.getfield 78, 3) := by decide +kernel
theorem dX7_feed_71 : decode cX7_feed 71 = .ok (.aload_n 0, 1) := by decide +kernel
theorem dX7_feed_72 : decode cX7_feed 72 = .ok (.getfield 108, 3) := by decide +kernel
theorem dX7_feed_75 : decode cX7_feed 75 = .ok (.iload 6, 2) := by decide +kernel
theorem dX7_feed_77 : decode cX7_feed 77 = .ok (.iadd, 1) := by decide +kernel
theorem dX7_feed_78 : decode cX7_feed 78 = .ok (.aload_n 0, 1) := by decide +kernel
theorem dX7_feed_79 : decode cX7_feed 79 = .ok (.getfield 85, 3) := by decide +kernel
theorem dX7_feed_82 : decode cX7_feed 82 = .ok (.iload 6, 2) := by decide +kernel
theorem dX7_feed_84 : decode cX7_feed 84 = .ok (.iconst 4, 1) := by decide +kernel
theorem dX7_feed_85 : decode cX7_feed 85 = .ok (.idiv, 1) := by decide +kernel
theorem dX7_feed_86 : decode cX7_feed 86 = .ok (.iaload, 1) := by decide +kernel
theorem dX7_feed_87 : decode cX7_feed 87 = .ok (.bipush 24, 2) := by decide +kernel
theorem dX7_feed_89 : decode cX7_feed 89 = .ok (.bipush 8, 2) := by decide +kernel
theorem dX7_feed_91 : decode cX7_feed 91 = .ok (.iload 6, 2) := by decide +kernel
theorem dX7_feed_93 : decode cX7_feed 93 = .ok (.iconst 4, 1) := by decide +kernel
theorem dX7_feed_94 : decode cX7_feed 94 = .ok (.irem, 1) := by decide +kernel
theorem dX7_feed_95 : decode cX7_feed 95 = .ok (.imul, 1) := by decide +kernel
theorem dX7_feed_96 : decode cX7_feed 96 = .ok (.isub, 1) := by decide +kernel
theorem dX7_feed_97 : decode cX7_feed 97 = .ok (.ishr, 1) := by decide +kernel
theorem dX7_feed_98 : decode cX7_feed 98 = .ok (.i2b, 1) := by decide +kernel
theorem dX7_feed_99 : decode cX7_feed 99 = .ok (.bastore, 1) := by decide +kernel
theorem dX7_feed_100 : decode cX7_feed 100 = .ok (.iinc 6 1, 3) := by decide +kernel
theorem dX7_feed_103 : decode cX7_feed 103 = .ok (.goto (-43), 3) := by decide +kernel
theorem dX7_feed_106 : decode cX7_feed 106 = .ok (.aload_n 0, 1) := by decide +kernel
theorem dX7_feed_107 : decode cX7_feed 107 = .ok (.dup, 1) := by decide +kernel
theorem dX7_feed_108 : decode cX7_feed 108 = .ok (.getfield 108, 3) := by decide +kernel
theorem dX7_feed_111 : decode cX7_feed 111 = .ok (.bipush 20, 2) := by decide +kernel
theorem dX7_feed_113 : decode cX7_feed 113 = .ok (.iadd, 1) := by decide +kernel
theorem dX7_feed_114 : decode cX7_feed 114 = .ok (.putfield 108, 3) := by decide +kernel
theorem dX7_feed_117 : decode cX7_feed 117 = .ok (.aload_n 0, 1) := by decide +kernel
theorem dX7_feed_118 : decode cX7_feed 118 = .ok (.getfield 108, 3) := by decide +kernel
theorem dX7_feed_121 : decode cX7_feed 121 = .ok (.ireturn, 1) := by decide +kernel
theorem dX7_end_0 : decode cX7_end 0 = .ok (.aload_n 0, 1) := by decide +kernel
theorem dX7_end_1 : decode cX7_end 1 = .ok (.iconst 0, 1) := by decide +kernel
theorem dX7_end_2 : decode cX7_end 2 = .ok (.putfield 91, 3) := by decide +kernel
theorem dX7_end_5 : decode cX7_end 5 = .ok (.iload_n 1, 1) := by decide +kernel
theorem dX7_end_6 : decode cX7_end 6 = .ok (.ifCond .lt 11, 3) := by decide +kernel
theorem dX7_end_9 : decode cX7_end 9 = .ok (.iload_n 1, 1) := by decide +kernel
theorem dX7_end_10 : decode cX7_end 10 = .ok (.aload_n 0, 1) := by decide +kernel
theorem dX7_end_11 : decode cX7_end 11 = .ok (.getfield 108, 3) := by decide +kernel
theorem dX7_end_14 : decode cX7_end 14 = .ok (.if_icmp .le 5, 3) := by decide +kernel
theorem dX7_end_17 : decode cX7_end 17 = .ok (.iconst 0, 1) := by decide +kernel
theorem dX7_end_18 : decode cX7_end 18 = .ok (.ireturn, 1) := by decide +kernel
theorem dX7_end_19 : decode cX7_end 19 = .ok (.aload_n 0, 1) := by decide +kernel
theorem dX7_end_20 : decode cX7_end 20 = .ok (.iload_n 1, 1) := by decide +kernel
theorem dX7_end_21 : decode cX7_end 21 = .ok (.putfield 108, 3) := by decide +kernel
theorem dX7_end_24 : decode cX7_end 24 = .ok (.iconst 1, 1) := by decide +kernel
theorem dX7_end_25 : decode cX7_end 25 = .ok (.ireturn, 1) := by decide +kernel
theorem dX7_uses_0 : decode cX7_uses 0 = .ok (.aload_n 0, 1) := by decide +kernel
theorem dX7_uses_1 : decode cX7_uses 1 = .ok (.iconst 0, 1) := by decide +kernel
theorem dX7_uses_2 : decode cX7_uses 2 = .ok (.putfield 91, 3) := by decide +kernel
theorem dX7_uses_5 : decode cX7_uses 5 = .ok (.aload_n 0, 1) := by decide +kernel
theorem dX7_uses_6 : decode cX7_uses 6 = .ok (.aload_n 0, 1) := by decide +kernel
theorem dX7_uses_7 : decode cX7_uses 7 = .ok (.getfield 108, 3) := by decide +kernel
theorem dX7_uses_10 : decode cX7_uses 10 = .ok (.putfield 111, 3) := by decide +kernel
theorem dX7_uses_13 : decode cX7_uses 13 = .ok (.aload_n 0, 1) := by decide +kernel
theorem dX7_uses_14 : decode cX7_uses 14 = .ok (.iconst 0, 1) := by decide +kernel
theorem dX7_uses_15 : decode cX7_uses 15 = .ok (.putfield 108, 3) := by decide +kernel
theorem dX7_uses_18 : decode cX7_uses 18 = .ok (.aload_n 0, 1) := by decide +kernel
theorem dX7_uses_19 : decode cX7_uses 19 = .ok (.iconst 0, 1) := by decide +kernel
theorem dX7_uses_20 : decode cX7_uses 20 = .ok (.putfield 114, 3) := by decide +kernel
theorem dX7_uses_23 : decode cX7_uses 23 = .ok (.return_, 1) := by decide +kernel
theorem dX7_isAt_0 : decode cX7_isAt 0 = .ok (.aload_n 0, 1) := by decide +kernel
theorem dX7_isAt_1 : decode cX7_isAt 1 = .ok (.getfield 114, 3) := by decide +kernel
theorem dX7_isAt_4 : decode cX7_isAt 4 = .ok (.aload_n 0, 1) := by decide +kernel
theorem dX7_isAt_5 : decode cX7_isAt 5 = .ok (.getfield 111, 3) := by decide +kernel
theorem dX7_isAt_8 : decode cX7_isAt 8 = .ok (.if_icmp .ge 33, 3) := by decide +kernel
theorem dX7_isAt_11 : decode cX7_isAt 11 = .ok (.aload_n 0, 1) := by decide +kernel
theorem dX7_isAt_12 : decode cX7_isAt 12 = .ok (.getfield 78, 3) := by decide +kernel
theorem dX7_isAt_15 : decode cX7_isAt 15 = .ok (.aload_n 0, 1) := by decide +kernel
theorem dX7_isAt_16 : decode cX7_isAt 16 = .ok (.getfield 114, 3) := by decide +kernel
theorem dX7_isAt_19 : decode cX7_isAt 19 = .ok (.baload, 1) := by decide +kernel
theorem dX7_isAt_20 : decode cX7_isAt 20 = .ok (.iload_n 1, 1) := by decide +kernel
theorem dX7_isAt_21 : decode cX7_isAt 21 = .ok (.if_icmp .lt 20, 3) := by decide +kernel
theorem dX7_isAt_24 : decode cX7_isAt 24 = .ok (.aload_n 0, 1) := by decide +kernel
theorem dX7_isAt_25 : decode cX7_isAt 25 = .ok (.getfield 78, 3) := by decide +kernel
theorem dX7_isAt_28 : decode cX7_isAt 28 = .ok (.aload_n 0, 1) := by decide +kernel
theorem dX7_isAt_29 : decode cX7_isAt 29 = .ok (.getfield 114, 3) := by decide +kernel
theorem dX7_isAt_32 : decode cX7_isAt 32 = .ok (.baload, 1) := by decide +kernel
theorem dX7_isAt_33 : decode cX7_isAt 33 = .ok (.iload_n 2, 1) := by decide +kernel
theorem dX7_isAt_34 : decode cX7_isAt 34 = .ok (.if_icmp .gt 7, 3) := by decide +kernel
theorem dX7_isAt_37 : decode cX7_isAt 37 = .ok (.iconst 1, 1) := by decide +kernel
theorem dX7_isAt_38 : decode cX7_isAt 38 = .ok (.goto 4, 3) := by decide +kernel
theorem dX7_isAt_41 : decode cX7_isAt 41 = .ok (.iconst 0, 1) := by decide +kernel
theorem dX7_isAt_42 : decode cX7_isAt 42 = .ok (.ireturn, 1) := by decide +kernel
theorem dX7_blanks_0 : decode cX7_blanks 0 = .ok (.aload_n 0, 1) := by decide +kernel
theorem dX7_blanks_1 : decode cX7_blanks 1 = .ok (.bipush 32, 2) := by decide +kernel
theorem dX7_blanks_3 : decode cX7_blanks 3 = .ok (.bipush 32, 2) := by decide +kernel
theorem dX7_blanks_5 : decode cX7_blanks 5 = .ok (.invokevirtual 117, 3) := by decide +kernel
theorem dX7_blanks_8 : decode cX7_blanks 8 = .ok (.ifCond .eq 16, 3) := by decide +kernel
theorem dX7_blanks_11 : decode cX7_blanks 11 = .ok (.aload_n 0, 1) := by decide +kernel
theorem dX7_blanks_12 : decode cX7_blanks 12 = .ok (.dup, 1) := by decide +kernel
theorem dX7_blanks_13 : decode cX7_blanks 13 = .ok (.getfield 114, 3) := by decide +kernel
theorem dX7_blanks_16 : decode cX7_blanks 16 = .ok (.iconst 1, 1) := by decide +kernel
theorem dX7_blanks_17 : decode cX7_blanks 17 = .ok (.iadd, 1) := by decide +kernel
theorem dX7_blanks_18 : decode cX7_blanks 18 = .ok (.putfield 114, 3) := by decide +kernel
theorem dX7_blanks_21 : decode cX7_blanks 21 = .ok (.goto (-21), 3) := by decide +kernel
theorem dX7_blanks_24 : decode cX7_blanks 24 = .ok (.aload_n 0, 1) := by decide +kernel
theorem dX7_blanks_25 : decode cX7_blanks 25 = .ok (.aload_n 0, 1) := by decide +kernel
theorem dX7_blanks_26 : decode cX7_blanks 26 = .ok (.getfield 114, 3) := by decide +kernel
theorem dX7_blanks_29 : decode cX7_blanks 29 = .ok (.putfield 121, 3) := by decide +kernel
theorem dX7_blanks_32 : decode cX7_blanks 32 = .ok (.return_, 1) := by decide +kernel
theorem dX7_word_0 : decode cX7_word 0 = .ok (.aload_n 0, 1) := by decide +kernel
theorem dX7_word_1 : decode cX7_word 1 = .ok (.invokevirtual 124, 3) := by decide +kernel
theorem dX7_word_4 : decode cX7_word 4 = .ok (.aload_n 0, 1) := by decide +kernel
theorem dX7_word_5 : decode cX7_word 5 = .ok (.bipush 97, 2) := by decide +kernel
theorem dX7_word_7 : decode cX7_word 7 = .ok (.bipush 122, 2) := by decide +kernel
theorem dX7_word_9 : decode cX7_word 9 = .ok (.invokevirtual 117, 3) := by decide +kernel
theorem dX7_word_12 : decode cX7_word 12 = .ok (.ifCond .eq 16, 3) := by decide +kernel
theorem dX7_word_15 : decode cX7_word 15 = .ok (.aload_n 0, 1) := by decide +kernel
theorem dX7_word_16 : decode cX7_word 16 = .ok (.dup, 1) := by decide +kernel
theorem dX7_word_17 : decode cX7_word 17 = .ok (.getfield 114, 3) := by decide +kernel
theorem dX7_word_20 : decode cX7_word 20 = .ok (.iconst 1, 1) := by decide +kernel
theorem dX7_word_21 : decode cX7_word 21 = .ok (.iadd, 1) := by decide +kernel
theorem dX7_word_22 : decode cX7_word 22 = .ok (.putfield 114, 3) := by decide +kernel
theorem dX7_word_25 : decode cX7_word 25 = .ok (.goto (-21), 3) := by decide +kernel
theorem dX7_word_28 : decode cX7_word 28 = .ok (.return_, 1) := by decide +kernel
theorem dX7_isWord_0 : decode cX7_isWord 0 = .ok (.aload_n 0, 1) := by decide +kernel
theorem dX7_isWord_1 : decode cX7_isWord 1 = .ok (.getfield 114, 3) := by decide +kernel
theorem dX7_isWord_4 : decode cX7_isWord 4 = .ok (.aload_n 0, 1) := by decide +kernel
theorem dX7_isWord_5 : decode cX7_isWord 5 = .ok (.getfield 121, 3) := by decide +kernel
theorem dX7_isWord_8 : decode cX7_isWord 8 = .ok (.isub, 1) := by decide +kernel
theorem dX7_isWord_9 : decode cX7_isWord 9 = .ok (.aload_n 1, 1) := by decide +kernel
theorem dX7_isWord_10 : decode cX7_isWord 10 = .ok (.invokevirtual 127, 3) := by decide +kernel
theorem dX7_isWord_13 : decode cX7_isWord 13 = .ok (.if_icmp .ne 7, 3) := by decide +kernel
theorem dX7_isWord_16 : decode cX7_isWord 16 = .ok (.iconst 1, 1) := by decide +kernel
theorem dX7_isWord_17 : decode cX7_isWord 17 = .ok (.goto 4, 3) := by decide +kernel
theorem dX7_isWord_20 : decode cX7_isWord 20 = .ok (.iconst 0, 1) := by decide +kernel
theorem dX7_isWord_21 : decode cX7_isWord 21 = .ok (.istore_n 2, 1) := by decide +kernel
theorem dX7_isWord_22 : decode cX7_isWord 22 = .ok (.iconst 0, 1) := by decide +kernel
theorem dX7_isWord_23 : decode cX7_isWord 23 = .ok (.istore_n 3, 1) := by decide +kernel
theorem dX7_isWord_24 : decode cX7_isWord 24 = .ok (.iload_n 2, 1) := by decide +kernel
theorem dX7_isWord_25 : decode cX7_isWord 25 = .ok (.ifCond .eq 42, 3) := by decide +kernel
theorem dX7_isWord_28 : decode cX7_isWord 28 = .ok (.iload_n 3, 1) := by decide +kernel
theorem dX7_isWord_29 : decode cX7_isWord 29 = .ok (.aload_n 1, 1) := by decide +kernel
theorem dX7_isWord_30 : decode cX7_isWord 30 = .ok (.invokevirtual 127, 3) := by decide +kernel
theorem dX7_isWord_33 : decode cX7_isWord 33 = .ok (.if_icmp .ge 34, 3) := by decide +kernel
theorem dX7_isWord_36 : decode cX7_isWord 36 = .ok (.aload_n 0, 1) := by decide +kernel
theorem dX7_isWord_37 : decode cX7_isWord 37 = .ok (.getfield 78, 3) := by decide +kernel
theorem dX7_isWord_40 : decode cX7_isWord 40 = .ok (.aload_n 0, 1) := by decide +kernel
theorem dX7_isWord_41 : decode cX7_isWord 41 = .ok (.getfield 121, 3) := by decide +kernel
theorem dX7_isWord_44 : decode cX7_isWord 44 = .ok (.iload_n 3, 1) := by decide +kernel
theorem dX7_isWord_45 : decode cX7_isWord 45 = .ok (.iadd, 1) := by decide +kernel
theorem dX7_isWord_46 : decode cX7_isWord 46 = .ok (.baload, 1) := by decide +kernel
theorem dX7_isWord_47 : decode cX7_isWord 47 = .ok (.aload_n 1, 1) := by decide +kernel
theorem dX7_isWord_48 : decode cX7_isWord 48 = .ok (.iload_n 3, 1) := by decide +kernel
theorem dX7_isWord_49 : decode cX7_isWord 49 = .ok (.invokevirtual 133, 3) := by decide +kernel
theorem dX7_isWord_52 : decode cX7_isWord 52 = .ok (.if_icmp .ne 7, 3) := by decide +kernel
theorem dX7_isWord_55 : decode cX7_isWord 55 = .ok (.iconst 1, 1) := by decide +kernel
theorem dX7_isWord_56 : decode cX7_isWord 56 = .ok (.goto 4, 3) := by decide +kernel
theorem dX7_isWord_59 : decode cX7_isWord 59 = .ok (.iconst 0, 1) := by decide +kernel
theorem dX7_isWord_60 : decode cX7_isWord 60 = .ok (.istore_n 2, 1) := by decide +kernel
theorem dX7_isWord_61 : decode cX7_isWord 61 = .ok (.iinc 3 1, 3) := by decide +kernel
theorem dX7_isWord_64 : decode cX7_isWord 64 = .ok (.goto (-40), 3) := by decide +kernel
theorem dX7_isWord_67 : decode cX7_isWord 67 = .ok (.iload_n 2, 1) := by decide +kernel
theorem dX7_isWord_68 : decode cX7_isWord 68 = .ok (.ireturn, 1) := by decide +kernel
theorem dX7_isSign_0 : decode cX7_isSign 0 = .ok (.aload_n 0, 1) := by decide +kernel
theorem dX7_isSign_1 : decode cX7_isSign 1 = .ok (.ldc 137, 2) := by decide +kernel
theorem dX7_isSign_3 : decode cX7_isSign 3 = .ok (.invokevirtual 139, 3) := by decide +kernel
theorem dX7_isSign_6 : decode cX7_isSign 6 = .ok (.ifCond .ne 21, 3) := by decide +kernel
theorem dX7_isSign_9 : decode cX7_isSign 9 = .ok (.aload_n 0, 1) := by decide +kernel
theorem dX7_isSign_10 : decode cX7_isSign 10 = .ok (.ldc 143, 2) := by decide +kernel
theorem dX7_isSign_12 : decode cX7_isSign 12 = .ok (.invokevirtual 139, 3) := by decide +kernel
theorem dX7_isSign_15 : decode cX7_isSign 15 = .ok (.ifCond .ne 12, 3) := by decide +kernel
theorem dX7_isSign_18 : decode cX7_isSign 18 = .ok (.aload_n 0, 1) := by decide +kernel
theorem dX7_isSign_19 : decode cX7_isSign 19 = .ok (.ldc 145, 2) := by decide +kernel
theorem dX7_isSign_21 : decode cX7_isSign 21 = .ok (.invokevirtual 139, 3) := by decide +kernel
theorem dX7_isSign_24 : decode cX7_isSign 24 = .ok (.ifCond .eq 7, 3) := by decide +kernel
theorem dX7_isSign_27 : decode cX7_isSign 27 = .ok (.iconst 1, 1) := by decide +kernel
theorem dX7_isSign_28 : decode cX7_isSign 28 = .ok (.goto 4, 3) := by decide +kernel
theorem dX7_isSign_31 : decode cX7_isSign 31 = .ok (.iconst 0, 1) := by decide +kernel
theorem dX7_isSign_32 : decode cX7_isSign 32 = .ok (.ireturn, 1) := by decide +kernel
theorem dX7_readPattern_0 : decode cX7_readPattern 0 = .ok (.iconst 0, 1) := by decide +kernel
theorem dX7_readPattern_1 : decode cX7_readPattern 1 = .ok (.istore_n 1, 1) := by decide +kernel
theorem dX7_readPattern_2 : decode cX7_readPattern 2 = .ok (.iconst 0, 1) := by decide +kernel
theorem dX7_readPattern_3 : decode cX7_readPattern 3 = .ok (.istore_n 2, 1) := by decide +kernel
theorem dX7_readPattern_4 : decode cX7_readPattern 4 = .ok (.aload_n 0, 1) := by decide +kernel
theorem dX7_readPattern_5 : decode cX7_readPattern 5 = .ok (.invokevirtual 147, 3) := by decide +kernel
theorem dX7_readPattern_8 : decode cX7_readPattern 8 = .ok (.aload_n 0, 1) := by decide +kernel
theorem dX7_readPattern_9 : decode cX7_readPattern 9 = .ok (.ldc 145, 2) := by decide +kernel
theorem dX7_readPattern_11 : decode cX7_readPattern 11 = .ok (.invokevirtual 139, 3) := by decide +kernel
theorem dX7_readPattern_14 : decode cX7_readPattern 14 = .ok (.istore_n 3, 1) := by decide +kernel
theorem dX7_readPattern_15 : decode cX7_readPattern 15 = .ok (.iload_n 3, 1) := by decide +kernel
theorem dX7_readPattern_16 : decode cX7_readPattern 16 = .ok (.ifCond .eq 7, 3) := by decide +kernel
theorem dX7_readPattern_19 : decode cX7_readPattern 19 = .ok (.aload_n 0, 1) := by decide +kernel
theorem dX7_readPattern_20 : decode cX7_readPattern 20 = .ok (.invokevirtual 147, 3) := by decide +kernel
theorem dX7_readPattern_23 : decode cX7_readPattern 23 = .ok (.aload_n 0, 1) := by decide +kernel
theorem dX7_readPattern_24 : decode cX7_readPattern 24 = .ok (.getfield 114, 3) := by decide +kernel
theorem dX7_readPattern_27 : decode cX7_readPattern 27 = .ok (.aload_n 0, 1) := by decide +kernel
theorem dX7_readPattern_28 : decode cX7_readPattern 28 = .ok (.getfield 121, 3) := by decide +kernel
theorem dX7_readPattern_31 : decode cX7_readPattern 31 = .ok (.if_icmp .eq 30, 3) := by decide +kernel
theorem dX7_readPattern_34 : decode cX7_readPattern 34 = .ok (.aload_n 0, 1) := by decide +kernel
theorem dX7_readPattern_35 : decode cX7_readPattern 35 = .ok (.invokevirtual 150, 3) := by decide +kernel
theorem dX7_readPattern_38 : decode cX7_readPattern 38 = .ok (.ifCond .ne 23, 3) := by decide +kernel
theorem dX7_readPattern_41 : decode cX7_readPattern 41 = .ok (.iload_n 1, 1) := by decide +kernel
theorem dX7_readPattern_42 : decode cX7_readPattern 42 = .ok (.bipush 12, 2) := by decide +kernel
theorem dX7_readPattern_44 : decode cX7_readPattern 44 = .ok (.if_icmp .eq 17, 3) := by decide +kernel
theorem dX7_readPattern_47 : decode cX7_readPattern 47 = .ok (.aload_n 0, 1) := by decide +kernel
theorem dX7_readPattern_48 : decode cX7_readPattern 48 = .ok (.getfield 114, 3) := by decide +kernel
theorem dX7_readPattern_51 : decode cX7_readPattern 51 = .ok (.aload_n 0, 1) := by decide +kernel
theorem dX7_readPattern_52 : decode cX7_readPattern 52 = .ok (.getfield 121, 3) := by decide +kernel
theorem dX7_readPattern_55 : decode cX7_readPattern 55 = .ok (.isub, 1) := by decide +kernel
theorem dX7_readPattern_56 : decode cX7_readPattern 56 = .ok (.bipush 12, 2) := by decide +kernel
theorem dX7_readPattern_58 : decode cX7_readPattern 58 = .ok (.if_icmp .le 5, 3) := by decide +kernel
theorem dX7_readPattern_61 : decode cX7_readPattern 61 = .ok (.iconst 0, 1) := by decide +kernel
theorem dX7_readPattern_62 : decode cX7_readPattern 62 = .ok (.ireturn, 1) := by decide +kernel
theorem dX7_readPattern_63 : decode cX7_readPattern 63 = .ok (.sipush 144, 3) := by decide +kernel
theorem dX7_readPattern_66 : decode cX7_readPattern 66 = .ok (.iload_n 1, 1) := by decide +kernel
theorem dX7_readPattern_67 : decode cX7_readPattern 67 = .ok (.iadd, 1) := by decide +kernel
theorem dX7_readPattern_68 : decode cX7_readPattern 68 = .ok (.istore 4, 2) := by decide +kernel
theorem dX7_readPattern_70 : decode cX7_readPattern 70 = .ok (.aload_n 0, 1) := by decide +kernel
theorem dX7_readPattern_71 : decode cX7_readPattern 71 = .ok (.getfield 30, 3) := by decide +kernel
theorem dX7_readPattern_74 : decode cX7_readPattern 74 = .ok (.iload 4, 2) := by decide +kernel
theorem dX7_readPattern_76 : decode cX7_readPattern 76 = .ok (.aload_n 0, 1) := by decide +kernel
theorem dX7_readPattern_77 : decode cX7_readPattern 77 = .ok (.getfield 114, 3) := by decide +kernel
theorem dX7_readPattern_80 : decode cX7_readPattern 80 = .ok (.aload_n 0, 1) := by decide +kernel
theorem dX7_readPattern_81 : decode cX7_readPattern 81 = .ok (.getfield 121, 3) := by decide +kernel
theorem dX7_readPattern_84 : decode cX7_readPattern 84 = .ok (.isub, 1) := by decide +kernel
theorem dX7_readPattern_85 : decode cX7_readPattern 85 = .ok (.iastore, 1) := by decide +kernel
theorem dX7_readPattern_86 : decode cX7_readPattern 86 = .ok (.iconst 0, 1) := by decide +kernel
theorem dX7_readPattern_87 : decode cX7_readPattern 87 = .ok (.istore 5, 2) := by decide +kernel
theorem dX7_readPattern_89 : decode cX7_readPattern 89 = .ok (.iload 5, 2) := by decide +kernel
theorem dX7_readPattern_91 : decode cX7_readPattern 91 = .ok (.aload_n 0, 1) := by decide +kernel
theorem dX7_readPattern_92 : decode cX7_readPattern 92 = .ok (.getfield 30, 3) := by decide +kernel
theorem dX7_readPattern_95 : decode cX7_readPattern 95 = .ok (.iload 4, 2) := by decide +kernel
theorem dX7_readPattern_97 : decode cX7_readPattern 97 = .ok (.iaload, 1) := by decide +kernel
theorem dX7_readPattern_98 : decode cX7_readPattern 98 = .ok (.if_icmp .ge 34, 3) := by decide +kernel
theorem dX7_readPattern_101 : decode cX7_readPattern 101 = .ok (.aload_n 0, 1) := by decide +kernel
theorem dX7_readPattern_102 : decode cX7_readPattern 102 = .ok (.getfield 26, 3) := by decide +kernel
theorem dX7_readPattern_105 : decode cX7_readPattern 105 = .ok (.bipush 12, 2) := by decide +kernel
theorem dX7_readPattern_107 : decode cX7_readPattern 107 = .ok (.iload 4, 2) := by decide +kernel
theorem dX7_readPattern_109 : decode cX7_readPattern 109 = .ok (.imul, 1) := by decide +kernel
theorem dX7_readPattern_110 : decode cX7_readPattern 110 = .ok (.iload 5, 2) := by decide +kernel
theorem dX7_readPattern_112 : decode cX7_readPattern 112 = .ok (.iadd, 1) := by decide +kernel
theorem dX7_readPattern_113 : decode cX7_readPattern 113 = .ok (.aload_n 0, 1) := by decide +kernel
theorem dX7_readPattern_114 : decode cX7_readPattern 114 = .ok (.getfield 78, 3) := by decide +kernel
theorem dX7_readPattern_117 : decode cX7_readPattern 117 = .ok (.aload_n 0, 1) := by decide +kernel
theorem dX7_readPattern_118 : decode cX7_readPattern 118 = .ok (.getfield 121, 3) := by decide +kernel
theorem dX7_readPattern_121 : decode cX7_readPattern 121 = .ok (.iload 5, 2) := by decide +kernel
theorem dX7_readPattern_123 : decode cX7_readPattern 123 = .ok (.iadd, 1) := by decide +kernel
theorem dX7_readPattern_124 : decode cX7_readPattern 124 = .ok (.baload, 1) := by decide +kernel
theorem dX7_readPattern_125 : decode cX7_readPattern 125 = .ok (.bastore, 1) := by decide +kernel
theorem dX7_readPattern_126 : decode cX7_readPattern 126 = .ok (.iinc 5 1, 3) := by decide +kernel
theorem dX7_readPattern_129 : decode cX7_readPattern 129 = .ok (.goto (-40), 3) := by decide +kernel
theorem dX7_readPattern_132 : decode cX7_readPattern 132 = .ok (.aload_n 0, 1) := by decide +kernel
theorem dX7_readPattern_133 : decode cX7_readPattern 133 = .ok (.getfield 33, 3) := by decide +kernel
theorem dX7_readPattern_136 : decode cX7_readPattern 136 = .ok (.iload 4, 2) := by decide +kernel
theorem dX7_readPattern_138 : decode cX7_readPattern 138 = .ok (.iload_n 3, 1) := by decide +kernel
theorem dX7_readPattern_139 : decode cX7_readPattern 139 = .ok (.bastore, 1) := by decide +kernel
theorem dX7_readPattern_140 : decode cX7_readPattern 140 = .ok (.aload_n 0, 1) := by decide +kernel
theorem dX7_readPattern_141 : decode cX7_readPattern 141 = .ok (.getfield 36, 3) := by decide +kernel
theorem dX7_readPattern_144 : decode cX7_readPattern 144 = .ok (.iload 4, 2) := by decide +kernel
theorem dX7_readPattern_146 : decode cX7_readPattern 146 = .ok (.iload_n 2, 1) := by decide +kernel
theorem dX7_readPattern_147 : decode cX7_readPattern 147 = .ok (.bastore, 1) := by decide +kernel
theorem dX7_readPattern_148 : decode cX7_readPattern 148 = .ok (.iinc 1 1, 3) := by decide +kernel
theorem dX7_readPattern_151 : decode cX7_readPattern 151 = .ok (.aload_n 0, 1) := by decide +kernel
theorem dX7_readPattern_152 : decode cX7_readPattern 152 = .ok (.getfield 23, 3) := by decide +kernel
theorem dX7_readPattern_155 : decode cX7_readPattern 155 = .ok (.bipush 12, 2) := by decide +kernel
theorem dX7_readPattern_157 : decode cX7_readPattern 157 = .ok (.iload_n 1, 1) := by decide +kernel
theorem dX7_readPattern_158 : decode cX7_readPattern 158 = .ok (.iastore, 1) := by decide +kernel
theorem dX7_readPattern_159 : decode cX7_readPattern 159 = .ok (.aload_n 0, 1) := by decide +kernel
theorem dX7_readPattern_160 : decode cX7_readPattern 160 = .ok (.invokevirtual 147, 3) := by decide +kernel
theorem dX7_readPattern_163 : decode cX7_readPattern 163 = .ok (.aload_n 0, 1) := by decide +kernel
theorem dX7_readPattern_164 : decode cX7_readPattern 164 = .ok (.getfield 114, 3) := by decide +kernel
theorem dX7_readPattern_167 : decode cX7_readPattern 167 = .ok (.aload_n 0, 1) := by decide +kernel
theorem dX7_readPattern_168 : decode cX7_readPattern 168 = .ok (.getfield 121, 3) := by decide +kernel
theorem dX7_readPattern_171 : decode cX7_readPattern 171 = .ok (.if_icmp .ne 16, 3) := by decide +kernel
theorem dX7_readPattern_174 : decode cX7_readPattern 174 = .ok (.aload_n 0, 1) := by decide +kernel
theorem dX7_readPattern_175 : decode cX7_readPattern 175 = .ok (.getfield 114, 3) := by decide +kernel
theorem dX7_readPattern_178 : decode cX7_readPattern 178 = .ok (.aload_n 0, 1) := by decide +kernel
theorem dX7_readPattern_179 : decode cX7_readPattern 179 = .ok (.getfield 111, 3) := by decide +kernel
theorem dX7_readPattern_182 : decode cX7_readPattern 182 = .ok (.if_icmp .ne 5, 3) := by decide +kernel
theorem dX7_readPattern_185 : decode cX7_readPattern 185 = .ok (.iconst 1, 1) := by decide +kernel
theorem dX7_readPattern_186 : decode cX7_readPattern 186 = .ok (.ireturn, 1) := by decide +kernel
theorem dX7_readPattern_187 : decode cX7_readPattern 187 = .ok (.aload_n 0, 1) := by decide +kernel
theorem dX7_readPattern_188 : decode cX7_readPattern 188 = .ok (.ldc 143, 2) := by decide +kernel
theorem dX7_readPattern_190 : decode cX7_readPattern 190 = .ok (.invokevirtual 139, 3) := by decide +kernel
theorem dX7_readPattern_193 : decode cX7_readPattern 193 = .ok (.istore_n 2, 1) := by decide +kernel
theorem dX7_readPattern_194 : decode cX7_readPattern 194 = .ok (.iload_n 2, 1) := by decide +kernel
theorem dX7_readPattern_195 : decode cX7_readPattern 195 = .ok (.ifCond .ne 14, 3) := by decide +kernel
theorem dX7_readPattern_198 : decode cX7_readPattern 198 = .ok (.aload_n 0, 1) := by decide +kernel
theorem dX7_readPattern_199 : decode cX7_readPattern 199 = .ok (.ldc 137, 2) := by decide +kernel
theorem dX7_readPattern_201 : decode cX7_readPattern 201 = .ok (.invokevirtual 139, 3) := by decide +kernel
theorem dX7_readPattern_204 : decode cX7_readPattern 204 = .ok (.ifCond .ne 5, 3) := by decide +kernel
theorem dX7_readPattern_207 : decode cX7_readPattern 207 = .ok (.iconst 0, 1) := by decide +kernel
theorem dX7_readPattern_208 : decode cX7_readPattern 208 = .ok (.ireturn, 1) := by decide +kernel
theorem dX7_readPattern_209 : decode cX7_readPattern 209 = .ok (.goto (-205), 3) := by decide +kernel
theorem dX7_readsPattern_0 : decode cX7_readsPattern 0 = .ok (.aload_n 0, 1) := by decide +kernel
theorem dX7_readsPattern_1 : decode cX7_readsPattern 1 = .ok (.invokevirtual 154, 3) := by decide +kernel
theorem dX7_readsPattern_4 : decode cX7_readsPattern 4 = .ok (.istore_n 1, 1) := by decide +kernel
theorem dX7_readsPattern_5 : decode cX7_readsPattern 5 = .ok (.aload_n 0, 1) := by decide +kernel
theorem dX7_readsPattern_6 : decode cX7_readsPattern 6 = .ok (.iload_n 1, 1) := by decide +kernel
theorem dX7_readsPattern_7 : decode cX7_readsPattern 7 = .ok (.ifCond .eq 7, 3) := by decide +kernel
theorem dX7_readsPattern_10 : decode cX7_readsPattern 10 = .ok (.iconst (-1), 1) := by decide +kernel
theorem dX7_readsPattern_11 : decode cX7_readsPattern 11 = .ok (.goto 7, 3) := by decide +kernel
theorem dX7_readsPattern_14 : decode cX7_readsPattern 14 = .ok (.aload_n 0, 1) := by decide +kernel
theorem dX7_readsPattern_15 : decode cX7_readsPattern 15 = .ok (.getfield 121, 3) := by decide +kernel
theorem dX7_readsPattern_18 : decode cX7_readsPattern 18 = .ok (.putfield 81, 3) := by decide +kernel
theorem dX7_readsPattern_21 : decode cX7_readsPattern 21 = .ok (.iload_n 1, 1) := by decide +kernel
theorem dX7_readsPattern_22 : decode cX7_readsPattern 22 = .ok (.ireturn, 1) := by decide +kernel
theorem dX7_setsPattern_0 : decode cX7_setsPattern 0 = .ok (.aload_n 0, 1) := by decide +kernel
theorem dX7_setsPattern_1 : decode cX7_setsPattern 1 = .ok (.getfield 23, 3) := by decide +kernel
theorem dX7_setsPattern_4 : decode cX7_setsPattern 4 = .ok (.iload_n 1, 1) := by decide +kernel
theorem dX7_setsPattern_5 : decode cX7_setsPattern 5 = .ok (.aload_n 0, 1) := by decide +kernel
theorem dX7_setsPattern_6 : decode cX7_setsPattern 6 = .ok (.getfield 23, 3) := by decide +kernel
theorem dX7_setsPattern_9 : decode cX7_setsPattern 9 = .ok (.bipush 12, 2) := by decide +kernel
theorem dX7_setsPattern_11 : decode cX7_setsPattern 11 = .ok (.iaload, 1) := by decide +kernel
theorem dX7_setsPattern_12 : decode cX7_setsPattern 12 = .ok (.iastore, 1) := by decide +kernel
theorem dX7_setsPattern_13 : decode cX7_setsPattern 13 = .ok (.iconst 0, 1) := by decide +kernel
theorem dX7_setsPattern_14 : decode cX7_setsPattern 14 = .ok (.istore_n 2, 1) := by decide +kernel
theorem dX7_setsPattern_15 : decode cX7_setsPattern 15 = .ok (.iload_n 2, 1) := by decide +kernel
theorem dX7_setsPattern_16 : decode cX7_setsPattern 16 = .ok (.aload_n 0, 1) := by decide +kernel
theorem dX7_setsPattern_17 : decode cX7_setsPattern 17 = .ok (.getfield 23, 3) := by decide +kernel
theorem dX7_setsPattern_20 : decode cX7_setsPattern 20 = .ok (.iload_n 1, 1) := by decide +kernel
theorem dX7_setsPattern_21 : decode cX7_setsPattern 21 = .ok (.iaload, 1) := by decide +kernel
theorem dX7_setsPattern_22 : decode cX7_setsPattern 22 = .ok (.if_icmp .ge 126, 3) := by decide +kernel
theorem dX7_setsPattern_25 : decode cX7_setsPattern 25 = .ok (.aload_n 0, 1) := by decide +kernel
theorem dX7_setsPattern_26 : decode cX7_setsPattern 26 = .ok (.getfield 30, 3) := by decide +kernel
theorem dX7_setsPattern_29 : decode cX7_setsPattern 29 = .ok (.bipush 12, 2) := by decide +kernel
theorem dX7_setsPattern_31 : decode cX7_setsPattern 31 = .ok (.iload_n 1, 1) := by decide +kernel
theorem dX7_setsPattern_32 : decode cX7_setsPattern 32 = .ok (.imul, 1) := by decide +kernel
theorem dX7_setsPattern_33 : decode cX7_setsPattern 33 = .ok (.iload_n 2, 1) := by decide +kernel
theorem dX7_setsPattern_34 : decode cX7_setsPattern 34 = .ok (.iadd, 1) := by decide +kernel
theorem dX7_setsPattern_35 : decode cX7_setsPattern 35 = .ok (.aload_n 0, 1) := by decide +kernel
theorem dX7_setsPattern_36 : decode cX7_setsPattern 36 = .ok (.getfield 30, 3) := by decide +kernel
theorem dX7_setsPattern_39 : decode cX7_setsPattern 39 = .ok (.sipush 144, 3) := by decide +kernel
theorem dX7_setsPattern_42 : decode cX7_setsPattern 42 = .ok (.iload_n 2, 1) := by decide +kernel
theorem dX7_setsPattern_43 : decode cX7_setsPattern 43 = .ok (.iadd, 1) := by decide +kernel
theorem dX7_setsPattern_44 : decode cX7_setsPattern 44 = .ok (.iaload, 1) := by decide +kernel
theorem dX7_setsPattern_45 : decode cX7_setsPattern 45 = .ok (.iastore, 1) := by decide +kernel
theorem dX7_setsPattern_46 : decode cX7_setsPattern 46 = .ok (.aload_n 0, 1) := by decide +kernel
theorem dX7_setsPattern_47 : decode cX7_setsPattern 47 = .ok (.getfield 33, 3) := by decide +kernel
theorem dX7_setsPattern_50 : decode cX7_setsPattern 50 = .ok (.bipush 12, 2) := by decide +kernel
theorem dX7_setsPattern_52 : decode cX7_setsPattern 52 = .ok (.iload_n 1, 1) := by decide +kernel
theorem dX7_setsPattern_53 : decode cX7_setsPattern 53 = .ok (.imul, 1) := by decide +kernel
theorem dX7_setsPattern_54 : decode cX7_setsPattern 54 = .ok (.iload_n 2, 1) := by decide +kernel
theorem dX7_setsPattern_55 : decode cX7_setsPattern 55 = .ok (.iadd, 1) := by decide +kernel
theorem dX7_setsPattern_56 : decode cX7_setsPattern 56 = .ok (.aload_n 0, 1) := by decide +kernel
theorem dX7_setsPattern_57 : decode cX7_setsPattern 57 = .ok (.getfield 33, 3) := by decide +kernel
theorem dX7_setsPattern_60 : decode cX7_setsPattern 60 = .ok (.sipush 144, 3) := by decide +kernel
theorem dX7_setsPattern_63 : decode cX7_setsPattern 63 = .ok (.iload_n 2, 1) := by decide +kernel
theorem dX7_setsPattern_64 : decode cX7_setsPattern 64 = .ok (.iadd, 1) := by decide +kernel
theorem dX7_setsPattern_65 : decode cX7_setsPattern 65 = .ok (.baload, 1) := by decide +kernel
theorem dX7_setsPattern_66 : decode cX7_setsPattern 66 = .ok (.bastore, 1) := by decide +kernel
theorem dX7_setsPattern_67 : decode cX7_setsPattern 67 = .ok (.aload_n 0, 1) := by decide +kernel
theorem dX7_setsPattern_68 : decode cX7_setsPattern 68 = .ok (.getfield 36, 3) := by decide +kernel
theorem dX7_setsPattern_71 : decode cX7_setsPattern 71 = .ok (.bipush 12, 2) := by decide +kernel
theorem dX7_setsPattern_73 : decode cX7_setsPattern 73 = .ok (.iload_n 1, 1) := by decide +kernel
theorem dX7_setsPattern_74 : decode cX7_setsPattern 74 = .ok (.imul, 1) := by decide +kernel
theorem dX7_setsPattern_75 : decode cX7_setsPattern 75 = .ok (.iload_n 2, 1) := by decide +kernel
theorem dX7_setsPattern_76 : decode cX7_setsPattern 76 = .ok (.iadd, 1) := by decide +kernel
theorem dX7_setsPattern_77 : decode cX7_setsPattern 77 = .ok (.aload_n 0, 1) := by decide +kernel
theorem dX7_setsPattern_78 : decode cX7_setsPattern 78 = .ok (.getfield 36, 3) := by decide +kernel
theorem dX7_setsPattern_81 : decode cX7_setsPattern 81 = .ok (.sipush 144, 3) := by decide +kernel
theorem dX7_setsPattern_84 : decode cX7_setsPattern 84 = .ok (.iload_n 2, 1) := by decide +kernel
theorem dX7_setsPattern_85 : decode cX7_setsPattern 85 = .ok (.iadd, 1) := by decide +kernel
theorem dX7_setsPattern_86 : decode cX7_setsPattern 86 = .ok (.baload, 1) := by decide +kernel
theorem dX7_setsPattern_87 : decode cX7_setsPattern 87 = .ok (.bastore, 1) := by decide +kernel
theorem dX7_setsPattern_88 : decode cX7_setsPattern 88 = .ok (.iconst 0, 1) := by decide +kernel
theorem dX7_setsPattern_89 : decode cX7_setsPattern 89 = .ok (.istore_n 3, 1) := by decide +kernel
theorem dX7_setsPattern_90 : decode cX7_setsPattern 90 = .ok (.iload_n 3, 1) := by decide +kernel
theorem dX7_setsPattern_91 : decode cX7_setsPattern 91 = .ok (.aload_n 0, 1) := by decide +kernel
theorem dX7_setsPattern_92 : decode cX7_setsPattern 92 = .ok (.getfield 30, 3) := by decide +kernel
theorem dX7_setsPattern_95 : decode cX7_setsPattern 95 = .ok (.bipush 12, 2) := by decide +kernel
theorem dX7_setsPattern_97 : decode cX7_setsPattern 97 = .ok (.iload_n 1, 1) := by decide +kernel
theorem dX7_setsPattern_98 : decode cX7_setsPattern 98 = .ok (.imul, 1) := by decide +kernel
theorem dX7_setsPattern_99 : decode cX7_setsPattern 99 = .ok (.iload_n 2, 1) := by decide +kernel
theorem dX7_setsPattern_100 : decode cX7_setsPattern 100 = .ok (.iadd, 1) := by decide +kernel
theorem dX7_setsPattern_101 : decode cX7_setsPattern 101 = .ok (.iaload, 1) := by decide +kernel
theorem dX7_setsPattern_102 : decode cX7_setsPattern 102 = .ok (.if_icmp .ge 40, 3) := by decide +kernel
theorem dX7_setsPattern_105 : decode cX7_setsPattern 105 = .ok (.aload_n 0, 1) := by decide +kernel
theorem dX7_setsPattern_106 : decode cX7_setsPattern 106 = .ok (.getfield 26, 3) := by decide +kernel
theorem dX7_setsPattern_109 : decode cX7_setsPattern 109 = .ok (.bipush 12, 2) := by decide +kernel
theorem dX7_setsPattern_111 : decode cX7_setsPattern 111 = .ok (.bipush 12, 2) := by decide +kernel
theorem dX7_setsPattern_113 : decode cX7_setsPattern 113 = .ok (.iload_n 1, 1) := by decide +kernel
theorem dX7_setsPattern_114 : decode cX7_setsPattern 114 = .ok (.imul, 1) := by decide +kernel
theorem dX7_setsPattern_115 : decode cX7_setsPattern 115 = .ok (.iload_n 2, 1) := by decide +kernel
theorem dX7_setsPattern_116 : decode cX7_setsPattern 116 = .ok (.iadd, 1) := by decide +kernel
theorem dX7_setsPattern_117 : decode cX7_setsPattern 117 = .ok (.imul, 1) := by decide +kernel
theorem dX7_setsPattern_118 : decode cX7_setsPattern 118 = .ok (.iload_n 3, 1) := by decide +kernel
theorem dX7_setsPattern_119 : decode cX7_setsPattern 119 = .ok (.iadd, 1) := by decide +kernel
theorem dX7_setsPattern_120 : decode cX7_setsPattern 120 = .ok (.aload_n 0, 1) := by decide +kernel
theorem dX7_setsPattern_121 : decode cX7_setsPattern 121 = .ok (.getfield 26, 3) := by decide +kernel
theorem dX7_setsPattern_124 : decode cX7_setsPattern 124 = .ok (.bipush 12, 2) := by decide +kernel
theorem dX7_setsPattern_126 : decode cX7_setsPattern 126 = .ok (.sipush 144, 3) := by decide +kernel
theorem dX7_setsPattern_129 : decode cX7_setsPattern 129 = .ok (.iload_n 2, 1) := by decide +kernel
theorem dX7_setsPattern_130 : decode cX7_setsPattern 130 = .ok (.iadd, 1) := by decide +kernel
theorem dX7_setsPattern_131 : decode cX7_setsPattern 131 = .ok (.imul, 1) := by decide +kernel
theorem dX7_setsPattern_132 : decode cX7_setsPattern 132 = .ok (.iload_n 3, 1) := by decide +kernel
theorem dX7_setsPattern_133 : decode cX7_setsPattern 133 = .ok (.iadd, 1) := by decide +kernel
theorem dX7_setsPattern_134 : decode cX7_setsPattern 134 = .ok (.baload, 1) := by decide +kernel
theorem dX7_setsPattern_135 : decode cX7_setsPattern 135 = .ok (.bastore, 1) := by decide +kernel
theorem dX7_setsPattern_136 : decode cX7_setsPattern 136 = .ok (.iinc 3 1, 3) := by decide +kernel
theorem dX7_setsPattern_139 : decode cX7_setsPattern 139 = .ok (.goto (-49), 3) := by decide +kernel
theorem dX7_setsPattern_142 : decode cX7_setsPattern 142 = .ok (.iinc 2 1, 3) := by decide +kernel
theorem dX7_setsPattern_145 : decode cX7_setsPattern 145 = .ok (.goto (-130), 3) := by decide +kernel
theorem dX7_setsPattern_148 : decode cX7_setsPattern 148 = .ok (.return_, 1) := by decide +kernel
theorem dX7_readLetter_0 : decode cX7_readLetter 0 = .ok (.iconst 0, 1) := by decide +kernel
theorem dX7_readLetter_1 : decode cX7_readLetter 1 = .ok (.istore_n 1, 1) := by decide +kernel
theorem dX7_readLetter_2 : decode cX7_readLetter 2 = .ok (.iconst 0, 1) := by decide +kernel
theorem dX7_readLetter_3 : decode cX7_readLetter 3 = .ok (.istore_n 2, 1) := by decide +kernel
theorem dX7_readLetter_4 : decode cX7_readLetter 4 = .ok (.iconst 1, 1) := by decide +kernel
theorem dX7_readLetter_5 : decode cX7_readLetter 5 = .ok (.istore_n 3, 1) := by decide +kernel
theorem dX7_readLetter_6 : decode cX7_readLetter 6 = .ok (.aload_n 0, 1) := by decide +kernel
theorem dX7_readLetter_7 : decode cX7_readLetter 7 = .ok (.invokevirtual 147, 3) := by decide +kernel
theorem dX7_readLetter_10 : decode cX7_readLetter 10 = .ok (.aload_n 0, 1) := by decide +kernel
theorem dX7_readLetter_11 : decode cX7_readLetter 11 = .ok (.getfield 114, 3) := by decide +kernel
theorem dX7_readLetter_14 : decode cX7_readLetter 14 = .ok (.aload_n 0, 1) := by decide +kernel
theorem dX7_readLetter_15 : decode cX7_readLetter 15 = .ok (.getfield 121, 3) := by decide +kernel
theorem dX7_readLetter_18 : decode cX7_readLetter 18 = .ok (.if_icmp .ne 17, 3) := by decide +kernel
theorem dX7_readLetter_21 : decode cX7_readLetter 21 = .ok (.aload_n 0, 1) := by decide +kernel
theorem dX7_readLetter_22 : decode cX7_readLetter 22 = .ok (.getfield 114, 3) := by decide +kernel
theorem dX7_readLetter_25 : decode cX7_readLetter 25 = .ok (.aload_n 0, 1) := by decide +kernel
theorem dX7_readLetter_26 : decode cX7_readLetter 26 = .ok (.getfield 111, 3) := by decide +kernel
theorem dX7_readLetter_29 : decode cX7_readLetter 29 = .ok (.if_icmp .ne 6, 3) := by decide +kernel
theorem dX7_readLetter_32 : decode cX7_readLetter 32 = .ok (.goto 125, 3) := by decide +kernel
theorem dX7_readLetter_35 : decode cX7_readLetter 35 = .ok (.aload_n 0, 1) := by decide +kernel
theorem dX7_readLetter_36 : decode cX7_readLetter 36 = .ok (.getfield 114, 3) := by decide +kernel
theorem dX7_readLetter_39 : decode cX7_readLetter 39 = .ok (.aload_n 0, 1) := by decide +kernel
theorem dX7_readLetter_40 : decode cX7_readLetter 40 = .ok (.getfield 121, 3) := by decide +kernel
theorem dX7_readLetter_43 : decode cX7_readLetter 43 = .ok (.if_icmp .ne 35, 3) := by decide +kernel
theorem dX7_readLetter_46 : decode cX7_readLetter 46 = .ok (.iload_n 3, 1) := by decide +kernel
theorem dX7_readLetter_47 : decode cX7_readLetter 47 = .ok (.ifCond .ne 14, 3) := by decide +kernel
theorem dX7_readLetter_50 : decode cX7_readLetter 50 = .ok (.aload_n 0, 1) := by decide +kernel
theorem dX7_readLetter_51 : decode cX7_readLetter 51 = .ok (.bipush 46, 2) := by decide +kernel
theorem dX7_readLetter_53 : decode cX7_readLetter 53 = .ok (.bipush 46, 2) := by decide +kernel
theorem dX7_readLetter_55 : decode cX7_readLetter 55 = .ok (.invokevirtual 117, 3) := by decide +kernel
theorem dX7_readLetter_58 : decode cX7_readLetter 58 = .ok (.ifCond .ne 5, 3) := by decide +kernel
theorem dX7_readLetter_61 : decode cX7_readLetter 61 = .ok (.iconst 0, 1) := by decide +kernel
theorem dX7_readLetter_62 : decode cX7_readLetter 62 = .ok (.ireturn, 1) := by decide +kernel
theorem dX7_readLetter_63 : decode cX7_readLetter 63 = .ok (.aload_n 0, 1) := by decide +kernel
theorem dX7_readLetter_64 : decode cX7_readLetter 64 = .ok (.dup, 1) := by decide +kernel
theorem dX7_readLetter_65 : decode cX7_readLetter 65 = .ok (.getfield 114, 3) := by decide +kernel
theorem dX7_readLetter_68 : decode cX7_readLetter 68 = .ok (.iconst 1, 1) := by decide +kernel
theorem dX7_readLetter_69 : decode cX7_readLetter 69 = .ok (.iadd, 1) := by decide +kernel
theorem dX7_readLetter_70 : decode cX7_readLetter 70 = .ok (.putfield 114, 3) := by decide +kernel
theorem dX7_readLetter_73 : decode cX7_readLetter 73 = .ok (.iconst 1, 1) := by decide +kernel
theorem dX7_readLetter_74 : decode cX7_readLetter 74 = .ok (.istore_n 3, 1) := by decide +kernel
theorem dX7_readLetter_75 : decode cX7_readLetter 75 = .ok (.goto (-69), 3) := by decide +kernel
theorem dX7_readLetter_78 : decode cX7_readLetter 78 = .ok (.iload_n 3, 1) := by decide +kernel
theorem dX7_readLetter_79 : decode cX7_readLetter 79 = .ok (.ifCond .eq 9, 3) := by decide +kernel
theorem dX7_readLetter_82 : decode cX7_readLetter 82 = .ok (.iload_n 2, 1) := by decide +kernel
theorem dX7_readLetter_83 : decode cX7_readLetter 83 = .ok (.bipush 6, 2) := by decide +kernel
theorem dX7_readLetter_85 : decode cX7_readLetter 85 = .ok (.if_icmp .eq 9, 3) := by decide +kernel
theorem dX7_readLetter_88 : decode cX7_readLetter 88 = .ok (.iload_n 1, 1) := by decide +kernel
theorem dX7_readLetter_89 : decode cX7_readLetter 89 = .ok (.bipush 60, 2) := by decide +kernel
theorem dX7_readLetter_91 : decode cX7_readLetter 91 = .ok (.if_icmp .ne 5, 3) := by decide +kernel
theorem dX7_readLetter_94 : decode cX7_readLetter 94 = .ok (.iconst 0, 1) := by decide +kernel
theorem dX7_readLetter_95 : decode cX7_readLetter 95 = .ok (.ireturn, 1) := by decide +kernel
theorem dX7_readLetter_96 : decode cX7_readLetter 96 = .ok (.iload_n 2, 1) := by decide +kernel
theorem dX7_readLetter_97 : decode cX7_readLetter 97 = .ok (.iload_n 3, 1) := by decide +kernel
theorem dX7_readLetter_98 : decode cX7_readLetter 98 = .ok (.ifCond .eq 7, 3) := by decide +kernel
theorem dX7_readLetter_101 : decode cX7_readLetter 101 = .ok (.iconst 1, 1) := by decide +kernel
theorem dX7_readLetter_102 : decode cX7_readLetter 102 = .ok (.goto 4, 3) := by decide +kernel
theorem dX7_readLetter_105 : decode cX7_readLetter 105 = .ok (.iconst 0, 1) := by decide +kernel
theorem dX7_readLetter_106 : decode cX7_readLetter 106 = .ok (.iadd, 1) := by decide +kernel
theorem dX7_readLetter_107 : decode cX7_readLetter 107 = .ok (.istore_n 2, 1) := by decide +kernel
theorem dX7_readLetter_108 : decode cX7_readLetter 108 = .ok (.iconst 0, 1) := by decide +kernel
theorem dX7_readLetter_109 : decode cX7_readLetter 109 = .ok (.istore_n 3, 1) := by decide +kernel
theorem dX7_readLetter_110 : decode cX7_readLetter 110 = .ok (.aload_n 0, 1) := by decide +kernel
theorem dX7_readLetter_111 : decode cX7_readLetter 111 = .ok (.getfield 57, 3) := by decide +kernel
theorem dX7_readLetter_114 : decode cX7_readLetter 114 = .ok (.sipush 4800, 3) := by decide +kernel
theorem dX7_readLetter_117 : decode cX7_readLetter 117 = .ok (.iload_n 1, 1) := by decide +kernel
theorem dX7_readLetter_118 : decode cX7_readLetter 118 = .ok (.iadd, 1) := by decide +kernel
theorem dX7_readLetter_119 : decode cX7_readLetter 119 = .ok (.aload_n 0, 1) := by decide +kernel
theorem dX7_readLetter_120 : decode cX7_readLetter 120 = .ok (.getfield 121, 3) := by decide +kernel
theorem dX7_readLetter_123 : decode cX7_readLetter 123 = .ok (.iastore, 1) := by decide +kernel
theorem dX7_readLetter_124 : decode cX7_readLetter 124 = .ok (.aload_n 0, 1) := by decide +kernel
theorem dX7_readLetter_125 : decode cX7_readLetter 125 = .ok (.getfield 60, 3) := by decide +kernel
theorem dX7_readLetter_128 : decode cX7_readLetter 128 = .ok (.sipush 4800, 3) := by decide +kernel
theorem dX7_readLetter_131 : decode cX7_readLetter 131 = .ok (.iload_n 1, 1) := by decide +kernel
theorem dX7_readLetter_132 : decode cX7_readLetter 132 = .ok (.iadd, 1) := by decide +kernel
theorem dX7_readLetter_133 : decode cX7_readLetter 133 = .ok (.aload_n 0, 1) := by decide +kernel
theorem dX7_readLetter_134 : decode cX7_readLetter 134 = .ok (.getfield 114, 3) := by decide +kernel
theorem dX7_readLetter_137 : decode cX7_readLetter 137 = .ok (.iastore, 1) := by decide +kernel
theorem dX7_readLetter_138 : decode cX7_readLetter 138 = .ok (.aload_n 0, 1) := by decide +kernel
theorem dX7_readLetter_139 : decode cX7_readLetter 139 = .ok (.getfield 63, 3) := by decide +kernel
theorem dX7_readLetter_142 : decode cX7_readLetter 142 = .ok (.sipush 4800, 3) := by decide +kernel
theorem dX7_readLetter_145 : decode cX7_readLetter 145 = .ok (.iload_n 1, 1) := by decide +kernel
theorem dX7_readLetter_146 : decode cX7_readLetter 146 = .ok (.iadd, 1) := by decide +kernel
theorem dX7_readLetter_147 : decode cX7_readLetter 147 = .ok (.iload_n 2, 1) := by decide +kernel
theorem dX7_readLetter_148 : decode cX7_readLetter 148 = .ok (.iconst 1, 1) := by decide +kernel
theorem dX7_readLetter_149 : decode cX7_readLetter 149 = .ok (.isub, 1) := by decide +kernel
theorem dX7_readLetter_150 : decode cX7_readLetter 150 = .ok (.iastore, 1) := by decide +kernel
theorem dX7_readLetter_151 : decode cX7_readLetter 151 = .ok (.iinc 1 1, 3) := by decide +kernel
theorem dX7_readLetter_154 : decode cX7_readLetter 154 = .ok (.goto (-148), 3) := by decide +kernel
theorem dX7_readLetter_157 : decode cX7_readLetter 157 = .ok (.aload_n 0, 1) := by decide +kernel
theorem dX7_readLetter_158 : decode cX7_readLetter 158 = .ok (.getfield 48, 3) := by decide +kernel
theorem dX7_readLetter_161 : decode cX7_readLetter 161 = .ok (.bipush 80, 2) := by decide +kernel
theorem dX7_readLetter_163 : decode cX7_readLetter 163 = .ok (.iload_n 2, 1) := by decide +kernel
theorem dX7_readLetter_164 : decode cX7_readLetter 164 = .ok (.iastore, 1) := by decide +kernel
theorem dX7_readLetter_165 : decode cX7_readLetter 165 = .ok (.aload_n 0, 1) := by decide +kernel
theorem dX7_readLetter_166 : decode cX7_readLetter 166 = .ok (.getfield 51, 3) := by decide +kernel
theorem dX7_readLetter_169 : decode cX7_readLetter 169 = .ok (.bipush 80, 2) := by decide +kernel
theorem dX7_readLetter_171 : decode cX7_readLetter 171 = .ok (.iload_n 1, 1) := by decide +kernel
theorem dX7_readLetter_172 : decode cX7_readLetter 172 = .ok (.iastore, 1) := by decide +kernel
theorem dX7_readLetter_173 : decode cX7_readLetter 173 = .ok (.iload_n 1, 1) := by decide +kernel
theorem dX7_readLetter_174 : decode cX7_readLetter 174 = .ok (.ifCond .le 7, 3) := by decide +kernel
theorem dX7_readLetter_177 : decode cX7_readLetter 177 = .ok (.iconst 1, 1) := by decide +kernel
theorem dX7_readLetter_178 : decode cX7_readLetter 178 = .ok (.goto 4, 3) := by decide +kernel
theorem dX7_readLetter_181 : decode cX7_readLetter 181 = .ok (.iconst 0, 1) := by decide +kernel
theorem dX7_readLetter_182 : decode cX7_readLetter 182 = .ok (.ireturn, 1) := by decide +kernel
theorem dX7_fault_0 : decode cX7_fault 0 = .ok (.aload_n 0, 1) := by decide +kernel
theorem dX7_fault_1 : decode cX7_fault 1 = .ok (.iconst 0, 1) := by decide +kernel
theorem dX7_fault_2 : decode cX7_fault 2 = .ok (.putfield 91, 3) := by decide +kernel
theorem dX7_fault_5 : decode cX7_fault 5 = .ok (.aload_n 0, 1) := by decide +kernel
theorem dX7_fault_6 : decode cX7_fault 6 = .ok (.getfield 81, 3) := by decide +kernel
theorem dX7_fault_9 : decode cX7_fault 9 = .ok (.ireturn, 1) := by decide +kernel
theorem dX7_isSame_0 : decode cX7_isSame 0 = .ok (.bipush 60, 2) := by decide +kernel
theorem dX7_isSame_2 : decode cX7_isSame 2 = .ok (.iload_n 1, 1) := by decide +kernel
theorem dX7_isSame_3 : decode cX7_isSame 3 = .ok (.imul, 1) := by decide +kernel
theorem dX7_isSame_4 : decode cX7_isSame 4 = .ok (.iload_n 2, 1) := by decide +kernel
theorem dX7_isSame_5 : decode cX7_isSame 5 = .ok (.iadd, 1) := by decide +kernel
theorem dX7_isSame_6 : decode cX7_isSame 6 = .ok (.istore 4, 2) := by decide +kernel
theorem dX7_isSame_8 : decode cX7_isSame 8 = .ok (.aload_n 0, 1) := by decide +kernel
theorem dX7_isSame_9 : decode cX7_isSame 9 = .ok (.getfield 60, 3) := by decide +kernel
theorem dX7_isSame_12 : decode cX7_isSame 12 = .ok (.iload 4, 2) := by decide +kernel
theorem dX7_isSame_14 : decode cX7_isSame 14 = .ok (.iaload, 1) := by decide +kernel
theorem dX7_isSame_15 : decode cX7_isSame 15 = .ok (.aload_n 0, 1) := by decide +kernel
theorem dX7_isSame_16 : decode cX7_isSame 16 = .ok (.getfield 57, 3) := by decide +kernel
theorem dX7_isSame_19 : decode cX7_isSame 19 = .ok (.iload 4, 2) := by decide +kernel
theorem dX7_isSame_21 : decode cX7_isSame 21 = .ok (.iaload, 1) := by decide +kernel
theorem dX7_isSame_22 : decode cX7_isSame 22 = .ok (.isub, 1) := by decide +kernel
theorem dX7_isSame_23 : decode cX7_isSame 23 = .ok (.aload_n 0, 1) := by decide +kernel
theorem dX7_isSame_24 : decode cX7_isSame 24 = .ok (.getfield 30, 3) := by decide +kernel
theorem dX7_isSame_27 : decode cX7_isSame 27 = .ok (.iload_n 3, 1) := by decide +kernel
theorem dX7_isSame_28 : decode cX7_isSame 28 = .ok (.iaload, 1) := by decide +kernel
theorem dX7_isSame_29 : decode cX7_isSame 29 = .ok (.if_icmp .eq 5, 3) := by decide +kernel
theorem dX7_isSame_32 : decode cX7_isSame 32 = .ok (.iconst 0, 1) := by decide +kernel
theorem dX7_isSame_33 : decode cX7_isSame 33 = .ok (.ireturn, 1) := by decide +kernel
theorem dX7_isSame_34 : decode cX7_isSame 34 = .ok (.iconst 0, 1) := by decide +kernel
theorem dX7_isSame_35 : decode cX7_isSame 35 = .ok (.istore 5, 2) := by decide +kernel
theorem dX7_isSame_37 : decode cX7_isSame 37 = .ok (.iload 5, 2) := by decide +kernel
theorem dX7_isSame_39 : decode cX7_isSame 39 = .ok (.aload_n 0, 1) := by decide +kernel
theorem dX7_isSame_40 : decode cX7_isSame 40 = .ok (.getfield 30, 3) := by decide +kernel
theorem dX7_isSame_43 : decode cX7_isSame 43 = .ok (.iload_n 3, 1) := by decide +kernel
theorem dX7_isSame_44 : decode cX7_isSame 44 = .ok (.iaload, 1) := by decide +kernel
theorem dX7_isSame_45 : decode cX7_isSame 45 = .ok (.if_icmp .ge 47, 3) := by decide +kernel
theorem dX7_isSame_48 : decode cX7_isSame 48 = .ok (.aload_n 0, 1) := by decide +kernel
theorem dX7_isSame_49 : decode cX7_isSame 49 = .ok (.getfield 54, 3) := by decide +kernel
theorem dX7_isSame_52 : decode cX7_isSame 52 = .ok (.sipush 400, 3) := by decide +kernel
theorem dX7_isSame_55 : decode cX7_isSame 55 = .ok (.iload_n 1, 1) := by decide +kernel
theorem dX7_isSame_56 : decode cX7_isSame 56 = .ok (.imul, 1) := by decide +kernel
theorem dX7_isSame_57 : decode cX7_isSame 57 = .ok (.aload_n 0, 1) := by decide +kernel
theorem dX7_isSame_58 : decode cX7_isSame 58 = .ok (.getfield 57, 3) := by decide +kernel
theorem dX7_isSame_61 : decode cX7_isSame 61 = .ok (.iload 4, 2) := by decide +kernel
theorem dX7_isSame_63 : decode cX7_isSame 63 = .ok (.iaload, 1) := by decide +kernel
theorem dX7_isSame_64 : decode cX7_isSame 64 = .ok (.iadd, 1) := by decide +kernel
theorem dX7_isSame_65 : decode cX7_isSame 65 = .ok (.iload 5, 2) := by decide +kernel
theorem dX7_isSame_67 : decode cX7_isSame 67 = .ok (.iadd, 1) := by decide +kernel
theorem dX7_isSame_68 : decode cX7_isSame 68 = .ok (.baload, 1) := by decide +kernel
theorem dX7_isSame_69 : decode cX7_isSame 69 = .ok (.aload_n 0, 1) := by decide +kernel
theorem dX7_isSame_70 : decode cX7_isSame 70 = .ok (.getfield 26, 3) := by decide +kernel
theorem dX7_isSame_73 : decode cX7_isSame 73 = .ok (.bipush 12, 2) := by decide +kernel
theorem dX7_isSame_75 : decode cX7_isSame 75 = .ok (.iload_n 3, 1) := by decide +kernel
theorem dX7_isSame_76 : decode cX7_isSame 76 = .ok (.imul, 1) := by decide +kernel
theorem dX7_isSame_77 : decode cX7_isSame 77 = .ok (.iload 5, 2) := by decide +kernel
theorem dX7_isSame_79 : decode cX7_isSame 79 = .ok (.iadd, 1) := by decide +kernel
theorem dX7_isSame_80 : decode cX7_isSame 80 = .ok (.baload, 1) := by decide +kernel
theorem dX7_isSame_81 : decode cX7_isSame 81 = .ok (.if_icmp .eq 5, 3) := by decide +kernel
theorem dX7_isSame_84 : decode cX7_isSame 84 = .ok (.iconst 0, 1) := by decide +kernel
theorem dX7_isSame_85 : decode cX7_isSame 85 = .ok (.ireturn, 1) := by decide +kernel
theorem dX7_isSame_86 : decode cX7_isSame 86 = .ok (.iinc 5 1, 3) := by decide +kernel
theorem dX7_isSame_89 : decode cX7_isSame 89 = .ok (.goto (-52), 3) := by decide +kernel
theorem dX7_isSame_92 : decode cX7_isSame 92 = .ok (.iconst 1, 1) := by decide +kernel
theorem dX7_isSame_93 : decode cX7_isSame 93 = .ok (.ireturn, 1) := by decide +kernel
theorem dX7_hasWord_0 : decode cX7_hasWord 0 = .ok (.iconst 0, 1) := by decide +kernel
theorem dX7_hasWord_1 : decode cX7_hasWord 1 = .ok (.istore 4, 2) := by decide +kernel
theorem dX7_hasWord_3 : decode cX7_hasWord 3 = .ok (.iconst 0, 1) := by decide +kernel
theorem dX7_hasWord_4 : decode cX7_hasWord 4 = .ok (.istore 5, 2) := by decide +kernel
theorem dX7_hasWord_6 : decode cX7_hasWord 6 = .ok (.iload 5, 2) := by decide +kernel
theorem dX7_hasWord_8 : decode cX7_hasWord 8 = .ok (.aload_n 0, 1) := by decide +kernel
theorem dX7_hasWord_9 : decode cX7_hasWord 9 = .ok (.getfield 51, 3) := by decide +kernel
theorem dX7_hasWord_12 : decode cX7_hasWord 12 = .ok (.iload_n 1, 1) := by decide +kernel
theorem dX7_hasWord_13 : decode cX7_hasWord 13 = .ok (.iaload, 1) := by decide +kernel
theorem dX7_hasWord_14 : decode cX7_hasWord 14 = .ok (.if_icmp .ge 48, 3) := by decide +kernel
theorem dX7_hasWord_17 : decode cX7_hasWord 17 = .ok (.iload 4, 2) := by decide +kernel
theorem dX7_hasWord_19 : decode cX7_hasWord 19 = .ok (.ifCond .ne 43, 3) := by decide +kernel
theorem dX7_hasWord_22 : decode cX7_hasWord 22 = .ok (.aload_n 0, 1) := by decide +kernel
theorem dX7_hasWord_23 : decode cX7_hasWord 23 = .ok (.getfield 63, 3) := by decide +kernel
theorem dX7_hasWord_26 : decode cX7_hasWord 26 = .ok (.bipush 60, 2) := by decide +kernel
theorem dX7_hasWord_28 : decode cX7_hasWord 28 = .ok (.iload_n 1, 1) := by decide +kernel
theorem dX7_hasWord_29 : decode cX7_hasWord 29 = .ok (.imul, 1) := by decide +kernel
theorem dX7_hasWord_30 : decode cX7_hasWord 30 = .ok (.iload 5, 2) := by decide +kernel
theorem dX7_hasWord_32 : decode cX7_hasWord 32 = .ok (.iadd, 1) := by decide +kernel
theorem dX7_hasWord_33 : decode cX7_hasWord 33 = .ok (.iaload, 1) := by decide +kernel
theorem dX7_hasWord_34 : decode cX7_hasWord 34 = .ok (.iload_n 2, 1) := by decide +kernel
theorem dX7_hasWord_35 : decode cX7_hasWord 35 = .ok (.if_icmp .ne 18, 3) := by decide +kernel
theorem dX7_hasWord_38 : decode cX7_hasWord 38 = .ok (.aload_n 0, 1) := by decide +kernel
theorem dX7_hasWord_39 : decode cX7_hasWord 39 = .ok (.iload_n 1, 1) := by decide +kernel
theorem dX7_hasWord_40 : decode cX7_hasWord 40 = .ok (.iload 5, 2) := by decide +kernel
theorem dX7_hasWord_42 : decode cX7_hasWord 42 = .ok (.iload_n 3, 1) := by decide +kernel
theorem dX7_hasWord_43 : decode cX7_hasWord 43 = .ok (.invokevirtual 157, 3) := by decide +kernel
theorem dX7_hasWord_46 : decode cX7_hasWord 46 = .ok (.ifCond .eq 7, 3) := by decide +kernel
theorem dX7_hasWord_49 : decode cX7_hasWord 49 = .ok (.iconst 1, 1) := by decide +kernel
theorem dX7_hasWord_50 : decode cX7_hasWord 50 = .ok (.goto 4, 3) := by decide +kernel
theorem dX7_hasWord_53 : decode cX7_hasWord 53 = .ok (.iconst 0, 1) := by decide +kernel
theorem dX7_hasWord_54 : decode cX7_hasWord 54 = .ok (.istore 4, 2) := by decide +kernel
theorem dX7_hasWord_56 : decode cX7_hasWord 56 = .ok (.iinc 5 1, 3) := by decide +kernel
theorem dX7_hasWord_59 : decode cX7_hasWord 59 = .ok (.goto (-53), 3) := by decide +kernel
theorem dX7_hasWord_62 : decode cX7_hasWord 62 = .ok (.iload 4, 2) := by decide +kernel
theorem dX7_hasWord_64 : decode cX7_hasWord 64 = .ok (.ireturn, 1) := by decide +kernel
theorem dX7_fits_0 : decode cX7_fits 0 = .ok (.iconst 1, 1) := by decide +kernel
theorem dX7_fits_1 : decode cX7_fits 1 = .ok (.istore 4, 2) := by decide +kernel
theorem dX7_fits_3 : decode cX7_fits 3 = .ok (.bipush 12, 2) := by decide +kernel
theorem dX7_fits_5 : decode cX7_fits 5 = .ok (.iload_n 1, 1) := by decide +kernel
theorem dX7_fits_6 : decode cX7_fits 6 = .ok (.imul, 1) := by decide +kernel
theorem dX7_fits_7 : decode cX7_fits 7 = .ok (.istore 5, 2) := by decide +kernel
theorem dX7_fits_9 : decode cX7_fits 9 = .ok (.iload 5, 2) := by decide +kernel
theorem dX7_fits_11 : decode cX7_fits 11 = .ok (.bipush 12, 2) := by decide +kernel
theorem dX7_fits_13 : decode cX7_fits 13 = .ok (.iload_n 1, 1) := by decide +kernel
theorem dX7_fits_14 : decode cX7_fits 14 = .ok (.imul, 1) := by decide +kernel
theorem dX7_fits_15 : decode cX7_fits 15 = .ok (.aload_n 0, 1) := by decide +kernel
theorem dX7_fits_16 : decode cX7_fits 16 = .ok (.getfield 23, 3) := by decide +kernel
theorem dX7_fits_19 : decode cX7_fits 19 = .ok (.iload_n 1, 1) := by decide +kernel
theorem dX7_fits_20 : decode cX7_fits 20 = .ok (.iaload, 1) := by decide +kernel
theorem dX7_fits_21 : decode cX7_fits 21 = .ok (.iadd, 1) := by decide +kernel
theorem dX7_fits_22 : decode cX7_fits 22 = .ok (.if_icmp .ge 59, 3) := by decide +kernel
theorem dX7_fits_25 : decode cX7_fits 25 = .ok (.aload_n 0, 1) := by decide +kernel
theorem dX7_fits_26 : decode cX7_fits 26 = .ok (.getfield 36, 3) := by decide +kernel
theorem dX7_fits_29 : decode cX7_fits 29 = .ok (.iload 5, 2) := by decide +kernel
theorem dX7_fits_31 : decode cX7_fits 31 = .ok (.baload, 1) := by decide +kernel
theorem dX7_fits_32 : decode cX7_fits 32 = .ok (.ifCond .eq 13, 3) := by decide +kernel
theorem dX7_fits_35 : decode cX7_fits 35 = .ok (.iload 4, 2) := by decide +kernel
theorem dX7_fits_37 : decode cX7_fits 37 = .ok (.ifCond .eq 5, 3) := by decide +kernel
theorem dX7_fits_40 : decode cX7_fits 40 = .ok (.iconst 1, 1) := by decide +kernel
theorem dX7_fits_41 : decode cX7_fits 41 = .ok (.ireturn, 1) := by decide +kernel
theorem dX7_fits_42 : decode cX7_fits 42 = .ok (.iconst 1, 1) := by decide +kernel
theorem dX7_fits_43 : decode cX7_fits 43 = .ok (.istore 4, 2) := by decide +kernel
theorem dX7_fits_45 : decode cX7_fits 45 = .ok (.iload 4, 2) := by decide +kernel
theorem dX7_fits_47 : decode cX7_fits 47 = .ok (.ifCond .eq 25, 3) := by decide +kernel
theorem dX7_fits_50 : decode cX7_fits 50 = .ok (.aload_n 0, 1) := by decide +kernel
theorem dX7_fits_51 : decode cX7_fits 51 = .ok (.iload_n 2, 1) := by decide +kernel
theorem dX7_fits_52 : decode cX7_fits 52 = .ok (.iload_n 3, 1) := by decide +kernel
theorem dX7_fits_53 : decode cX7_fits 53 = .ok (.iload 5, 2) := by decide +kernel
theorem dX7_fits_55 : decode cX7_fits 55 = .ok (.invokevirtual 160, 3) := by decide +kernel
theorem dX7_fits_58 : decode cX7_fits 58 = .ok (.aload_n 0, 1) := by decide +kernel
theorem dX7_fits_59 : decode cX7_fits 59 = .ok (.getfield 33, 3) := by decide +kernel
theorem dX7_fits_62 : decode cX7_fits 62 = .ok (.iload 5, 2) := by decide +kernel
theorem dX7_fits_64 : decode cX7_fits 64 = .ok (.baload, 1) := by decide +kernel
theorem dX7_fits_65 : decode cX7_fits 65 = .ok (.if_icmp .eq 7, 3) := by decide +kernel
theorem dX7_fits_68 : decode cX7_fits 68 = .ok (.iconst 1, 1) := by decide +kernel
theorem dX7_fits_69 : decode cX7_fits 69 = .ok (.goto 4, 3) := by decide +kernel
theorem dX7_fits_72 : decode cX7_fits 72 = .ok (.iconst 0, 1) := by decide +kernel
theorem dX7_fits_73 : decode cX7_fits 73 = .ok (.istore 4, 2) := by decide +kernel
theorem dX7_fits_75 : decode cX7_fits 75 = .ok (.iinc 5 1, 3) := by decide +kernel
theorem dX7_fits_78 : decode cX7_fits 78 = .ok (.goto (-69), 3) := by decide +kernel
theorem dX7_fits_81 : decode cX7_fits 81 = .ok (.iload 4, 2) := by decide +kernel
theorem dX7_fits_83 : decode cX7_fits 83 = .ok (.ireturn, 1) := by decide +kernel
theorem dX7_below_0 : decode cX7_below 0 = .ok (.iconst 0, 1) := by decide +kernel
theorem dX7_below_1 : decode cX7_below 1 = .ok (.istore 4, 2) := by decide +kernel
theorem dX7_below_3 : decode cX7_below 3 = .ok (.iload 4, 2) := by decide +kernel
theorem dX7_below_5 : decode cX7_below 5 = .ok (.aload_n 0, 1) := by decide +kernel
theorem dX7_below_6 : decode cX7_below 6 = .ok (.getfield 94, 3) := by decide +kernel
theorem dX7_below_9 : decode cX7_below 9 = .ok (.if_icmp .ge 34, 3) := by decide +kernel
theorem dX7_below_12 : decode cX7_below 12 = .ok (.aload_n 0, 1) := by decide +kernel
theorem dX7_below_13 : decode cX7_below 13 = .ok (.getfield 9, 3) := by decide +kernel
theorem dX7_below_16 : decode cX7_below 16 = .ok (.iload 4, 2) := by decide +kernel
theorem dX7_below_18 : decode cX7_below 18 = .ok (.iaload, 1) := by decide +kernel
theorem dX7_below_19 : decode cX7_below 19 = .ok (.iload_n 1, 1) := by decide +kernel
theorem dX7_below_20 : decode cX7_below 20 = .ok (.if_icmp .ne 17, 3) := by decide +kernel
theorem dX7_below_23 : decode cX7_below 23 = .ok (.aload_n 0, 1) := by decide +kernel
theorem dX7_below_24 : decode cX7_below 24 = .ok (.iload 4, 2) := by decide +kernel
theorem dX7_below_26 : decode cX7_below 26 = .ok (.iload_n 2, 1) := by decide +kernel
theorem dX7_below_27 : decode cX7_below 27 = .ok (.iload_n 3, 1) := by decide +kernel
theorem dX7_below_28 : decode cX7_below 28 = .ok (.invokevirtual 163, 3) := by decide +kernel
theorem dX7_below_31 : decode cX7_below 31 = .ok (.ifCond .eq 6, 3) := by decide +kernel
theorem dX7_below_34 : decode cX7_below 34 = .ok (.iload 4, 2) := by decide +kernel
theorem dX7_below_36 : decode cX7_below 36 = .ok (.ireturn, 1) := by decide +kernel
theorem dX7_below_37 : decode cX7_below 37 = .ok (.iinc 4 1, 3) := by decide +kernel
theorem dX7_below_40 : decode cX7_below 40 = .ok (.goto (-37), 3) := by decide +kernel
theorem dX7_below_43 : decode cX7_below 43 = .ok (.iconst (-1), 1) := by decide +kernel
theorem dX7_below_44 : decode cX7_below 44 = .ok (.ireturn, 1) := by decide +kernel
theorem dX7_sorted_0 : decode cX7_sorted 0 = .ok (.iconst (-1), 1) := by decide +kernel
theorem dX7_sorted_1 : decode cX7_sorted 1 = .ok (.istore_n 3, 1) := by decide +kernel
theorem dX7_sorted_2 : decode cX7_sorted 2 = .ok (.aload_n 0, 1) := by decide +kernel
theorem dX7_sorted_3 : decode cX7_sorted 3 = .ok (.iconst (-1), 1) := by decide +kernel
theorem dX7_sorted_4 : decode cX7_sorted 4 = .ok (.iload_n 1, 1) := by decide +kernel
theorem dX7_sorted_5 : decode cX7_sorted 5 = .ok (.iload_n 2, 1) := by decide +kernel
theorem dX7_sorted_6 : decode cX7_sorted 6 = .ok (.invokevirtual 166, 3) := by decide +kernel
theorem dX7_sorted_9 : decode cX7_sorted 9 = .ok (.istore 4, 2) := by decide +kernel
theorem dX7_sorted_11 : decode cX7_sorted 11 = .ok (.iload 4, 2) := by decide +kernel
theorem dX7_sorted_13 : decode cX7_sorted 13 = .ok (.ifCond .lt 18, 3) := by decide +kernel
theorem dX7_sorted_16 : decode cX7_sorted 16 = .ok (.iload 4, 2) := by decide +kernel
theorem dX7_sorted_18 : decode cX7_sorted 18 = .ok (.istore_n 3, 1) := by decide +kernel
theorem dX7_sorted_19 : decode cX7_sorted 19 = .ok (.aload_n 0, 1) := by decide +kernel
theorem dX7_sorted_20 : decode cX7_sorted 20 = .ok (.iload_n 3, 1) := by decide +kernel
theorem dX7_sorted_21 : decode cX7_sorted 21 = .ok (.iload_n 1, 1) := by decide +kernel
theorem dX7_sorted_22 : decode cX7_sorted 22 = .ok (.iload_n 2, 1) := by decide +kernel
theorem dX7_sorted_23 : decode cX7_sorted 23 = .ok (.invokevirtual 166, 3) := by decide +kernel
theorem dX7_sorted_26 : decode cX7_sorted 26 = .ok (.istore 4, 2) := by decide +kernel
theorem dX7_sorted_28 : decode cX7_sorted 28 = .ok (.goto (-17), 3) := by decide +kernel
theorem dX7_sorted_31 : decode cX7_sorted 31 = .ok (.iload_n 3, 1) := by decide +kernel
theorem dX7_sorted_32 : decode cX7_sorted 32 = .ok (.ireturn, 1) := by decide +kernel
theorem dX7_puts_0 : decode cX7_puts 0 = .ok (.aload_n 0, 1) := by decide +kernel
theorem dX7_puts_1 : decode cX7_puts 1 = .ok (.getfield 66, 3) := by decide +kernel
theorem dX7_puts_4 : decode cX7_puts 4 = .ok (.bipush 6, 2) := by decide +kernel
theorem dX7_puts_6 : decode cX7_puts 6 = .ok (.iload_n 1, 1) := by decide +kernel
theorem dX7_puts_7 : decode cX7_puts 7 = .ok (.imul, 1) := by decide +kernel
theorem dX7_puts_8 : decode cX7_puts 8 = .ok (.iload_n 2, 1) := by decide +kernel
theorem dX7_puts_9 : decode cX7_puts 9 = .ok (.iadd, 1) := by decide +kernel
theorem dX7_puts_10 : decode cX7_puts 10 = .ok (.iload_n 3, 1) := by decide +kernel
theorem dX7_puts_11 : decode cX7_puts 11 = .ok (.iastore, 1) := by decide +kernel
theorem dX7_puts_12 : decode cX7_puts 12 = .ok (.aload_n 0, 1) := by decide +kernel
theorem dX7_puts_13 : decode cX7_puts 13 = .ok (.getfield 69, 3) := by decide +kernel
theorem dX7_puts_16 : decode cX7_puts 16 = .ok (.bipush 6, 2) := by decide +kernel
theorem dX7_puts_18 : decode cX7_puts 18 = .ok (.iload_n 1, 1) := by decide +kernel
theorem dX7_puts_19 : decode cX7_puts 19 = .ok (.imul, 1) := by decide +kernel
theorem dX7_puts_20 : decode cX7_puts 20 = .ok (.iload_n 2, 1) := by decide +kernel
theorem dX7_puts_21 : decode cX7_puts 21 = .ok (.iadd, 1) := by decide +kernel
theorem dX7_puts_22 : decode cX7_puts 22 = .ok (.iload_n 3, 1) := by decide +kernel
theorem dX7_puts_23 : decode cX7_puts 23 = .ok (.ifCond .ge 7, 3) := by decide +kernel
theorem dX7_puts_26 : decode cX7_puts 26 = .ok (.iconst (-1), 1) := by decide +kernel
theorem dX7_puts_27 : decode cX7_puts 27 = .ok (.goto 16, 3) := by decide +kernel
theorem dX7_puts_30 : decode cX7_puts 30 = .ok (.aload_n 0, 1) := by decide +kernel
theorem dX7_puts_31 : decode cX7_puts 31 = .ok (.getfield 45, 3) := by decide +kernel
theorem dX7_puts_34 : decode cX7_puts 34 = .ok (.iload_n 1, 1) := by decide +kernel
theorem dX7_puts_35 : decode cX7_puts 35 = .ok (.iaload, 1) := by decide +kernel
theorem dX7_puts_36 : decode cX7_puts 36 = .ok (.aload_n 0, 1) := by decide +kernel
theorem dX7_puts_37 : decode cX7_puts 37 = .ok (.getfield 16, 3) := by decide +kernel
theorem dX7_puts_40 : decode cX7_puts 40 = .ok (.iload_n 3, 1) := by decide +kernel
theorem dX7_puts_41 : decode cX7_puts 41 = .ok (.iaload, 1) := by decide +kernel
theorem dX7_puts_42 : decode cX7_puts 42 = .ok (.iadd, 1) := by decide +kernel
theorem dX7_puts_43 : decode cX7_puts 43 = .ok (.iastore, 1) := by decide +kernel
theorem dX7_puts_44 : decode cX7_puts 44 = .ok (.return_, 1) := by decide +kernel
theorem dX7_cause_0 : decode cX7_cause 0 = .ok (.aload_n 0, 1) := by decide +kernel
theorem dX7_cause_1 : decode cX7_cause 1 = .ok (.invokevirtual 170, 3) := by decide +kernel
theorem dX7_cause_4 : decode cX7_cause 4 = .ok (.aload_n 0, 1) := by decide +kernel
theorem dX7_cause_5 : decode cX7_cause 5 = .ok (.iload_n 1, 1) := by decide +kernel
theorem dX7_cause_6 : decode cX7_cause 6 = .ok (.iconst (-1), 1) := by decide +kernel
theorem dX7_cause_7 : decode cX7_cause 7 = .ok (.if_icmp .eq 11, 3) := by decide +kernel
theorem dX7_cause_10 : decode cX7_cause 10 = .ok (.aload_n 0, 1) := by decide +kernel
theorem dX7_cause_11 : decode cX7_cause 11 = .ok (.iload_n 1, 1) := by decide +kernel
theorem dX7_cause_12 : decode cX7_cause 12 = .ok (.invokevirtual 173, 3) := by decide +kernel
theorem dX7_cause_15 : decode cX7_cause 15 = .ok (.ifCond .ne 10, 3) := by decide +kernel
theorem dX7_cause_18 : decode cX7_cause 18 = .ok (.iload_n 2, 1) := by decide +kernel
theorem dX7_cause_19 : decode cX7_cause 19 = .ok (.invokestatic 176, 3) := by decide +kernel
theorem dX7_cause_22 : decode cX7_cause 22 = .ok (.ifCond .eq 7, 3) := by decide +kernel
theorem dX7_cause_25 : decode cX7_cause 25 = .ok (.iconst 1, 1) := by decide +kernel
theorem dX7_cause_26 : decode cX7_cause 26 = .ok (.goto 4, 3) := by decide +kernel
theorem dX7_cause_29 : decode cX7_cause 29 = .ok (.iconst 0, 1) := by decide +kernel
theorem dX7_cause_30 : decode cX7_cause 30 = .ok (.iconst 1, 1) := by decide +kernel
theorem dX7_cause_31 : decode cX7_cause 31 = .ok (.invokevirtual 179, 3) := by decide +kernel
theorem dX7_cause_34 : decode cX7_cause 34 = .ok (.ifCond .ne 26, 3) := by decide +kernel
theorem dX7_cause_37 : decode cX7_cause 37 = .ok (.aload_n 0, 1) := by decide +kernel
theorem dX7_cause_38 : decode cX7_cause 38 = .ok (.iload_n 3, 1) := by decide +kernel
theorem dX7_cause_39 : decode cX7_cause 39 = .ok (.iconst 0, 1) := by decide +kernel
theorem dX7_cause_40 : decode cX7_cause 40 = .ok (.bipush 60, 2) := by decide +kernel
theorem dX7_cause_42 : decode cX7_cause 42 = .ok (.invokestatic 97, 3) := by decide +kernel
theorem dX7_cause_45 : decode cX7_cause 45 = .ok (.ifCond .ne 7, 3) := by decide +kernel
theorem dX7_cause_48 : decode cX7_cause 48 = .ok (.iconst 1, 1) := by decide +kernel
theorem dX7_cause_49 : decode cX7_cause 49 = .ok (.goto 4, 3) := by decide +kernel
theorem dX7_cause_52 : decode cX7_cause 52 = .ok (.iconst 0, 1) := by decide +kernel
theorem dX7_cause_53 : decode cX7_cause 53 = .ok (.iconst 2, 1) := by decide +kernel
theorem dX7_cause_54 : decode cX7_cause 54 = .ok (.invokevirtual 179, 3) := by decide +kernel
theorem dX7_cause_57 : decode cX7_cause 57 = .ok (.ifCond .eq 5, 3) := by decide +kernel
theorem dX7_cause_60 : decode cX7_cause 60 = .ok (.iconst 0, 1) := by decide +kernel
theorem dX7_cause_61 : decode cX7_cause 61 = .ok (.ireturn, 1) := by decide +kernel
theorem dX7_cause_62 : decode cX7_cause 62 = .ok (.aload_n 0, 1) := by decide +kernel
theorem dX7_cause_63 : decode cX7_cause 63 = .ok (.aload_n 0, 1) := by decide +kernel
theorem dX7_cause_64 : decode cX7_cause 64 = .ok (.invokevirtual 183, 3) := by decide +kernel
theorem dX7_cause_67 : decode cX7_cause 67 = .ok (.ifCond .ne 7, 3) := by decide +kernel
theorem dX7_cause_70 : decode cX7_cause 70 = .ok (.iconst 1, 1) := by decide +kernel
theorem dX7_cause_71 : decode cX7_cause 71 = .ok (.goto 4, 3) := by decide +kernel
theorem dX7_cause_74 : decode cX7_cause 74 = .ok (.iconst 0, 1) := by decide +kernel
theorem dX7_cause_75 : decode cX7_cause 75 = .ok (.iconst 2, 1) := by decide +kernel
theorem dX7_cause_76 : decode cX7_cause 76 = .ok (.invokevirtual 179, 3) := by decide +kernel
theorem dX7_cause_79 : decode cX7_cause 79 = .ok (.ifCond .ne 25, 3) := by decide +kernel
theorem dX7_cause_82 : decode cX7_cause 82 = .ok (.aload_n 0, 1) := by decide +kernel
theorem dX7_cause_83 : decode cX7_cause 83 = .ok (.aload_n 0, 1) := by decide +kernel
theorem dX7_cause_84 : decode cX7_cause 84 = .ok (.getfield 94, 3) := by decide +kernel
theorem dX7_cause_87 : decode cX7_cause 87 = .ok (.bipush 12, 2) := by decide +kernel
theorem dX7_cause_89 : decode cX7_cause 89 = .ok (.if_icmp .ne 7, 3) := by decide +kernel
theorem dX7_cause_92 : decode cX7_cause 92 = .ok (.iconst 1, 1) := by decide +kernel
theorem dX7_cause_93 : decode cX7_cause 93 = .ok (.goto 4, 3) := by decide +kernel
theorem dX7_cause_96 : decode cX7_cause 96 = .ok (.iconst 0, 1) := by decide +kernel
theorem dX7_cause_97 : decode cX7_cause 97 = .ok (.iconst 3, 1) := by decide +kernel
theorem dX7_cause_98 : decode cX7_cause 98 = .ok (.invokevirtual 179, 3) := by decide +kernel
theorem dX7_cause_101 : decode cX7_cause 101 = .ok (.ifCond .eq 5, 3) := by decide +kernel
theorem dX7_cause_104 : decode cX7_cause 104 = .ok (.iconst 0, 1) := by decide +kernel
theorem dX7_cause_105 : decode cX7_cause 105 = .ok (.ireturn, 1) := by decide +kernel
theorem dX7_cause_106 : decode cX7_cause 106 = .ok (.aload_n 0, 1) := by decide +kernel
theorem dX7_cause_107 : decode cX7_cause 107 = .ok (.getfield 9, 3) := by decide +kernel
theorem dX7_cause_110 : decode cX7_cause 110 = .ok (.aload_n 0, 1) := by decide +kernel
theorem dX7_cause_111 : decode cX7_cause 111 = .ok (.getfield 94, 3) := by decide +kernel
theorem dX7_cause_114 : decode cX7_cause 114 = .ok (.iload_n 1, 1) := by decide +kernel
theorem dX7_cause_115 : decode cX7_cause 115 = .ok (.iastore, 1) := by decide +kernel
theorem dX7_cause_116 : decode cX7_cause 116 = .ok (.aload_n 0, 1) := by decide +kernel
theorem dX7_cause_117 : decode cX7_cause 117 = .ok (.getfield 13, 3) := by decide +kernel
theorem dX7_cause_120 : decode cX7_cause 120 = .ok (.aload_n 0, 1) := by decide +kernel
theorem dX7_cause_121 : decode cX7_cause 121 = .ok (.getfield 94, 3) := by decide +kernel
theorem dX7_cause_124 : decode cX7_cause 124 = .ok (.iload_n 2, 1) := by decide +kernel
theorem dX7_cause_125 : decode cX7_cause 125 = .ok (.iastore, 1) := by decide +kernel
theorem dX7_cause_126 : decode cX7_cause 126 = .ok (.aload_n 0, 1) := by decide +kernel
theorem dX7_cause_127 : decode cX7_cause 127 = .ok (.getfield 16, 3) := by decide +kernel
theorem dX7_cause_130 : decode cX7_cause 130 = .ok (.aload_n 0, 1) := by decide +kernel
theorem dX7_cause_131 : decode cX7_cause 131 = .ok (.getfield 94, 3) := by decide +kernel
theorem dX7_cause_134 : decode cX7_cause 134 = .ok (.iload_n 3, 1) := by decide +kernel
theorem dX7_cause_135 : decode cX7_cause 135 = .ok (.iastore, 1) := by decide +kernel
theorem dX7_cause_136 : decode cX7_cause 136 = .ok (.aload_n 0, 1) := by decide +kernel
theorem dX7_cause_137 : decode cX7_cause 137 = .ok (.getfield 19, 3) := by decide +kernel
theorem dX7_cause_140 : decode cX7_cause 140 = .ok (.aload_n 0, 1) := by decide +kernel
theorem dX7_cause_141 : decode cX7_cause 141 = .ok (.getfield 94, 3) := by decide +kernel
theorem dX7_cause_144 : decode cX7_cause 144 = .ok (.iload 4, 2) := by decide +kernel
theorem dX7_cause_146 : decode cX7_cause 146 = .ok (.bastore, 1) := by decide +kernel
theorem dX7_cause_147 : decode cX7_cause 147 = .ok (.aload_n 0, 1) := by decide +kernel
theorem dX7_cause_148 : decode cX7_cause 148 = .ok (.aload_n 0, 1) := by decide +kernel
theorem dX7_cause_149 : decode cX7_cause 149 = .ok (.getfield 94, 3) := by decide +kernel
theorem dX7_cause_152 : decode cX7_cause 152 = .ok (.invokevirtual 186, 3) := by decide +kernel
theorem dX7_cause_155 : decode cX7_cause 155 = .ok (.aload_n 0, 1) := by decide +kernel
theorem dX7_cause_156 : decode cX7_cause 156 = .ok (.dup, 1) := by decide +kernel
theorem dX7_cause_157 : decode cX7_cause 157 = .ok (.getfield 94, 3) := by decide +kernel
theorem dX7_cause_160 : decode cX7_cause 160 = .ok (.iconst 1, 1) := by decide +kernel
theorem dX7_cause_161 : decode cX7_cause 161 = .ok (.iadd, 1) := by decide +kernel
theorem dX7_cause_162 : decode cX7_cause 162 = .ok (.putfield 94, 3) := by decide +kernel
theorem dX7_cause_165 : decode cX7_cause 165 = .ok (.aload_n 0, 1) := by decide +kernel
theorem dX7_cause_166 : decode cX7_cause 166 = .ok (.getfield 94, 3) := by decide +kernel
theorem dX7_cause_169 : decode cX7_cause 169 = .ok (.iconst 1, 1) := by decide +kernel
theorem dX7_cause_170 : decode cX7_cause 170 = .ok (.isub, 1) := by decide +kernel
theorem dX7_cause_171 : decode cX7_cause 171 = .ok (.ireturn, 1) := by decide +kernel
theorem dX7_pattern_0 : decode cX7_pattern 0 = .ok (.aload_n 0, 1) := by decide +kernel
theorem dX7_pattern_1 : decode cX7_pattern 1 = .ok (.invokevirtual 170, 3) := by decide +kernel
theorem dX7_pattern_4 : decode cX7_pattern 4 = .ok (.aload_n 0, 1) := by decide +kernel
theorem dX7_pattern_5 : decode cX7_pattern 5 = .ok (.aload_n 0, 1) := by decide +kernel
theorem dX7_pattern_6 : decode cX7_pattern 6 = .ok (.iload_n 1, 1) := by decide +kernel
theorem dX7_pattern_7 : decode cX7_pattern 7 = .ok (.invokevirtual 173, 3) := by decide +kernel
theorem dX7_pattern_10 : decode cX7_pattern 10 = .ok (.iconst 1, 1) := by decide +kernel
theorem dX7_pattern_11 : decode cX7_pattern 11 = .ok (.invokevirtual 179, 3) := by decide +kernel
theorem dX7_pattern_14 : decode cX7_pattern 14 = .ok (.ifCond .ne 23, 3) := by decide +kernel
theorem dX7_pattern_17 : decode cX7_pattern 17 = .ok (.aload_n 0, 1) := by decide +kernel
theorem dX7_pattern_18 : decode cX7_pattern 18 = .ok (.aload_n 0, 1) := by decide +kernel
theorem dX7_pattern_19 : decode cX7_pattern 19 = .ok (.invokevirtual 183, 3) := by decide +kernel
theorem dX7_pattern_22 : decode cX7_pattern 22 = .ok (.ifCond .ne 7, 3) := by decide +kernel
theorem dX7_pattern_25 : decode cX7_pattern 25 = .ok (.iconst 1, 1) := by decide +kernel
theorem dX7_pattern_26 : decode cX7_pattern 26 = .ok (.goto 4, 3) := by decide +kernel
theorem dX7_pattern_29 : decode cX7_pattern 29 = .ok (.iconst 0, 1) := by decide +kernel
theorem dX7_pattern_30 : decode cX7_pattern 30 = .ok (.iconst 2, 1) := by decide +kernel
theorem dX7_pattern_31 : decode cX7_pattern 31 = .ok (.invokevirtual 179, 3) := by decide +kernel
theorem dX7_pattern_34 : decode cX7_pattern 34 = .ok (.ifCond .eq 5, 3) := by decide +kernel
theorem dX7_pattern_37 : decode cX7_pattern 37 = .ok (.iconst 0, 1) := by decide +kernel
theorem dX7_pattern_38 : decode cX7_pattern 38 = .ok (.ireturn, 1) := by decide +kernel
theorem dX7_pattern_39 : decode cX7_pattern 39 = .ok (.aload_n 0, 1) := by decide +kernel
theorem dX7_pattern_40 : decode cX7_pattern 40 = .ok (.iload_n 1, 1) := by decide +kernel
theorem dX7_pattern_41 : decode cX7_pattern 41 = .ok (.invokevirtual 186, 3) := by decide +kernel
theorem dX7_pattern_44 : decode cX7_pattern 44 = .ok (.iconst 0, 1) := by decide +kernel
theorem dX7_pattern_45 : decode cX7_pattern 45 = .ok (.istore_n 2, 1) := by decide +kernel
theorem dX7_pattern_46 : decode cX7_pattern 46 = .ok (.iconst 0, 1) := by decide +kernel
theorem dX7_pattern_47 : decode cX7_pattern 47 = .ok (.istore_n 3, 1) := by decide +kernel
theorem dX7_pattern_48 : decode cX7_pattern 48 = .ok (.iload_n 3, 1) := by decide +kernel
theorem dX7_pattern_49 : decode cX7_pattern 49 = .ok (.aload_n 0, 1) := by decide +kernel
theorem dX7_pattern_50 : decode cX7_pattern 50 = .ok (.getfield 101, 3) := by decide +kernel
theorem dX7_pattern_53 : decode cX7_pattern 53 = .ok (.if_icmp .ge 88, 3) := by decide +kernel
theorem dX7_pattern_56 : decode cX7_pattern 56 = .ok (.iconst 0, 1) := by decide +kernel
theorem dX7_pattern_57 : decode cX7_pattern 57 = .ok (.istore 4, 2) := by decide +kernel
theorem dX7_pattern_59 : decode cX7_pattern 59 = .ok (.iload 4, 2) := by decide +kernel
theorem dX7_pattern_61 : decode cX7_pattern 61 = .ok (.aload_n 0, 1) := by decide +kernel
theorem dX7_pattern_62 : decode cX7_pattern 62 = .ok (.getfield 48, 3) := by decide +kernel
theorem dX7_pattern_65 : decode cX7_pattern 65 = .ok (.iload_n 3, 1) := by decide +kernel
theorem dX7_pattern_66 : decode cX7_pattern 66 = .ok (.iaload, 1) := by decide +kernel
theorem dX7_pattern_67 : decode cX7_pattern 67 = .ok (.if_icmp .ge 68, 3) := by decide +kernel
theorem dX7_pattern_70 : decode cX7_pattern 70 = .ok (.aload_n 0, 1) := by decide +kernel
theorem dX7_pattern_71 : decode cX7_pattern 71 = .ok (.getfield 72, 3) := by decide +kernel
theorem dX7_pattern_74 : decode cX7_pattern 74 = .ok (.bipush 6, 2) := by decide +kernel
theorem dX7_pattern_76 : decode cX7_pattern 76 = .ok (.iload_n 3, 1) := by decide +kernel
theorem dX7_pattern_77 : decode cX7_pattern 77 = .ok (.imul, 1) := by decide +kernel
theorem dX7_pattern_78 : decode cX7_pattern 78 = .ok (.iload 4, 2) := by decide +kernel
theorem dX7_pattern_80 : decode cX7_pattern 80 = .ok (.iadd, 1) := by decide +kernel
theorem dX7_pattern_81 : decode cX7_pattern 81 = .ok (.iaload, 1) := by decide +kernel
theorem dX7_pattern_82 : decode cX7_pattern 82 = .ok (.ifCond .lt 6, 3) := by decide +kernel
theorem dX7_pattern_85 : decode cX7_pattern 85 = .ok (.goto 44, 3) := by decide +kernel
theorem dX7_pattern_88 : decode cX7_pattern 88 = .ok (.aload_n 0, 1) := by decide +kernel
theorem dX7_pattern_89 : decode cX7_pattern 89 = .ok (.iload_n 3, 1) := by decide +kernel
theorem dX7_pattern_90 : decode cX7_pattern 90 = .ok (.iload 4, 2) := by decide +kernel
theorem dX7_pattern_92 : decode cX7_pattern 92 = .ok (.invokevirtual 190, 3) := by decide +kernel
theorem dX7_pattern_95 : decode cX7_pattern 95 = .ok (.istore 5, 2) := by decide +kernel
theorem dX7_pattern_97 : decode cX7_pattern 97 = .ok (.iload 5, 2) := by decide +kernel
theorem dX7_pattern_99 : decode cX7_pattern 99 = .ok (.aload_n 0, 1) := by decide +kernel
theorem dX7_pattern_100 : decode cX7_pattern 100 = .ok (.getfield 66, 3) := by decide +kernel
theorem dX7_pattern_103 : decode cX7_pattern 103 = .ok (.bipush 6, 2) := by decide +kernel
theorem dX7_pattern_105 : decode cX7_pattern 105 = .ok (.iload_n 3, 1) := by decide +kernel
theorem dX7_pattern_106 : decode cX7_pattern 106 = .ok (.imul, 1) := by decide +kernel
theorem dX7_pattern_107 : decode cX7_pattern 107 = .ok (.iload 4, 2) := by decide +kernel
theorem dX7_pattern_109 : decode cX7_pattern 109 = .ok (.iadd, 1) := by decide +kernel
theorem dX7_pattern_110 : decode cX7_pattern 110 = .ok (.iaload, 1) := by decide +kernel
theorem dX7_pattern_111 : decode cX7_pattern 111 = .ok (.if_icmp .ne 6, 3) := by decide +kernel
theorem dX7_pattern_114 : decode cX7_pattern 114 = .ok (.goto 15, 3) := by decide +kernel
theorem dX7_pattern_117 : decode cX7_pattern 117 = .ok (.aload_n 0, 1) := by decide +kernel
theorem dX7_pattern_118 : decode cX7_pattern 118 = .ok (.iload_n 3, 1) := by decide +kernel
theorem dX7_pattern_119 : decode cX7_pattern 119 = .ok (.iload 4, 2) := by decide +kernel
theorem dX7_pattern_121 : decode cX7_pattern 121 = .ok (.iload 5, 2) := by decide +kernel
theorem dX7_pattern_123 : decode cX7_pattern 123 = .ok (.invokevirtual 194, 3) := by decide +kernel
theorem dX7_pattern_126 : decode cX7_pattern 126 = .ok (.iinc 2 1, 3) := by decide +kernel
theorem dX7_pattern_129 : decode cX7_pattern 129 = .ok (.iinc 4 1, 3) := by decide +kernel
theorem dX7_pattern_132 : decode cX7_pattern 132 = .ok (.goto (-73), 3) := by decide +kernel
theorem dX7_pattern_135 : decode cX7_pattern 135 = .ok (.iinc 3 1, 3) := by decide +kernel
theorem dX7_pattern_138 : decode cX7_pattern 138 = .ok (.goto (-90), 3) := by decide +kernel
theorem dX7_pattern_141 : decode cX7_pattern 141 = .ok (.iload_n 2, 1) := by decide +kernel
theorem dX7_pattern_142 : decode cX7_pattern 142 = .ok (.ireturn, 1) := by decide +kernel
theorem dX7_letter_0 : decode cX7_letter 0 = .ok (.aload_n 0, 1) := by decide +kernel
theorem dX7_letter_1 : decode cX7_letter 1 = .ok (.invokevirtual 170, 3) := by decide +kernel
theorem dX7_letter_4 : decode cX7_letter 4 = .ok (.aload_n 0, 1) := by decide +kernel
theorem dX7_letter_5 : decode cX7_letter 5 = .ok (.iload_n 1, 1) := by decide +kernel
theorem dX7_letter_6 : decode cX7_letter 6 = .ok (.iconst 0, 1) := by decide +kernel
theorem dX7_letter_7 : decode cX7_letter 7 = .ok (.bipush 49, 2) := by decide +kernel
theorem dX7_letter_9 : decode cX7_letter 9 = .ok (.invokestatic 97, 3) := by decide +kernel
theorem dX7_letter_12 : decode cX7_letter 12 = .ok (.ifCond .ne 7, 3) := by decide +kernel
theorem dX7_letter_15 : decode cX7_letter 15 = .ok (.iconst 1, 1) := by decide +kernel
theorem dX7_letter_16 : decode cX7_letter 16 = .ok (.goto 4, 3) := by decide +kernel
theorem dX7_letter_19 : decode cX7_letter 19 = .ok (.iconst 0, 1) := by decide +kernel
theorem dX7_letter_20 : decode cX7_letter 20 = .ok (.iconst 1, 1) := by decide +kernel
theorem dX7_letter_21 : decode cX7_letter 21 = .ok (.invokevirtual 179, 3) := by decide +kernel
theorem dX7_letter_24 : decode cX7_letter 24 = .ok (.ifCond .eq 5, 3) := by decide +kernel
theorem dX7_letter_27 : decode cX7_letter 27 = .ok (.iconst 0, 1) := by decide +kernel
theorem dX7_letter_28 : decode cX7_letter 28 = .ok (.ireturn, 1) := by decide +kernel
theorem dX7_letter_29 : decode cX7_letter 29 = .ok (.aload_n 0, 1) := by decide +kernel
theorem dX7_letter_30 : decode cX7_letter 30 = .ok (.invokevirtual 198, 3) := by decide +kernel
theorem dX7_letter_33 : decode cX7_letter 33 = .ok (.istore_n 2, 1) := by decide +kernel
theorem dX7_letter_34 : decode cX7_letter 34 = .ok (.aload_n 0, 1) := by decide +kernel
theorem dX7_letter_35 : decode cX7_letter 35 = .ok (.iload_n 2, 1) := by decide +kernel
theorem dX7_letter_36 : decode cX7_letter 36 = .ok (.ifCond .eq 7, 3) := by decide +kernel
theorem dX7_letter_39 : decode cX7_letter 39 = .ok (.iconst (-1), 1) := by decide +kernel
theorem dX7_letter_40 : decode cX7_letter 40 = .ok (.goto 7, 3) := by decide +kernel
theorem dX7_letter_43 : decode cX7_letter 43 = .ok (.aload_n 0, 1) := by decide +kernel
theorem dX7_letter_44 : decode cX7_letter 44 = .ok (.getfield 121, 3) := by decide +kernel
theorem dX7_letter_47 : decode cX7_letter 47 = .ok (.putfield 81, 3) := by decide +kernel
theorem dX7_letter_50 : decode cX7_letter 50 = .ok (.aload_n 0, 1) := by decide +kernel
theorem dX7_letter_51 : decode cX7_letter 51 = .ok (.iload_n 2, 1) := by decide +kernel
theorem dX7_letter_52 : decode cX7_letter 52 = .ok (.ifCond .ne 7, 3) := by decide +kernel
theorem dX7_letter_55 : decode cX7_letter 55 = .ok (.iconst 1, 1) := by decide +kernel
theorem dX7_letter_56 : decode cX7_letter 56 = .ok (.goto 4, 3) := by decide +kernel
theorem dX7_letter_59 : decode cX7_letter 59 = .ok (.iconst 0, 1) := by decide +kernel
theorem dX7_letter_60 : decode cX7_letter 60 = .ok (.iconst 1, 1) := by decide +kernel
theorem dX7_letter_61 : decode cX7_letter 61 = .ok (.invokevirtual 179, 3) := by decide +kernel
theorem dX7_letter_64 : decode cX7_letter 64 = .ok (.ifCond .ne 25, 3) := by decide +kernel
theorem dX7_letter_67 : decode cX7_letter 67 = .ok (.aload_n 0, 1) := by decide +kernel
theorem dX7_letter_68 : decode cX7_letter 68 = .ok (.aload_n 0, 1) := by decide +kernel
theorem dX7_letter_69 : decode cX7_letter 69 = .ok (.getfield 101, 3) := by decide +kernel
theorem dX7_letter_72 : decode cX7_letter 72 = .ok (.bipush 80, 2) := by decide +kernel
theorem dX7_letter_74 : decode cX7_letter 74 = .ok (.if_icmp .ne 7, 3) := by decide +kernel
theorem dX7_letter_77 : decode cX7_letter 77 = .ok (.iconst 1, 1) := by decide +kernel
theorem dX7_letter_78 : decode cX7_letter 78 = .ok (.goto 4, 3) := by decide +kernel
theorem dX7_letter_81 : decode cX7_letter 81 = .ok (.iconst 0, 1) := by decide +kernel
theorem dX7_letter_82 : decode cX7_letter 82 = .ok (.iconst 2, 1) := by decide +kernel
theorem dX7_letter_83 : decode cX7_letter 83 = .ok (.invokevirtual 179, 3) := by decide +kernel
theorem dX7_letter_86 : decode cX7_letter 86 = .ok (.ifCond .eq 5, 3) := by decide +kernel
theorem dX7_letter_89 : decode cX7_letter 89 = .ok (.iconst 0, 1) := by decide +kernel
theorem dX7_letter_90 : decode cX7_letter 90 = .ok (.ireturn, 1) := by decide +kernel
theorem dX7_letter_91 : decode cX7_letter 91 = .ok (.aload_n 0, 1) := by decide +kernel
theorem dX7_letter_92 : decode cX7_letter 92 = .ok (.getfield 101, 3) := by decide +kernel
theorem dX7_letter_95 : decode cX7_letter 95 = .ok (.istore_n 3, 1) := by decide +kernel
theorem dX7_letter_96 : decode cX7_letter 96 = .ok (.aload_n 0, 1) := by decide +kernel
theorem dX7_letter_97 : decode cX7_letter 97 = .ok (.dup, 1) := by decide +kernel
theorem dX7_letter_98 : decode cX7_letter 98 = .ok (.getfield 101, 3) := by decide +kernel
theorem dX7_letter_101 : decode cX7_letter 101 = .ok (.iconst 1, 1) := by decide +kernel
theorem dX7_letter_102 : decode cX7_letter 102 = .ok (.iadd, 1) := by decide +kernel
theorem dX7_letter_103 : decode cX7_letter 103 = .ok (.putfield 101, 3) := by decide +kernel
theorem dX7_letter_106 : decode cX7_letter 106 = .ok (.aload_n 0, 1) := by decide +kernel
theorem dX7_letter_107 : decode cX7_letter 107 = .ok (.getfield 42, 3) := by decide +kernel
theorem dX7_letter_110 : decode cX7_letter 110 = .ok (.iload_n 3, 1) := by decide +kernel
theorem dX7_letter_111 : decode cX7_letter 111 = .ok (.iload_n 1, 1) := by decide +kernel
theorem dX7_letter_112 : decode cX7_letter 112 = .ok (.iastore, 1) := by decide +kernel
theorem dX7_letter_113 : decode cX7_letter 113 = .ok (.aload_n 0, 1) := by decide +kernel
theorem dX7_letter_114 : decode cX7_letter 114 = .ok (.getfield 45, 3) := by decide +kernel
theorem dX7_letter_117 : decode cX7_letter 117 = .ok (.iload_n 3, 1) := by decide +kernel
theorem dX7_letter_118 : decode cX7_letter 118 = .ok (.aload_n 0, 1) := by decide +kernel
theorem dX7_letter_119 : decode cX7_letter 119 = .ok (.getfield 201, 3) := by decide +kernel
theorem dX7_letter_122 : decode cX7_letter 122 = .ok (.iastore, 1) := by decide +kernel
theorem dX7_letter_123 : decode cX7_letter 123 = .ok (.aload_n 0, 1) := by decide +kernel
theorem dX7_letter_124 : decode cX7_letter 124 = .ok (.getfield 48, 3) := by decide +kernel
theorem dX7_letter_127 : decode cX7_letter 127 = .ok (.iload_n 3, 1) := by decide +kernel
theorem dX7_letter_128 : decode cX7_letter 128 = .ok (.aload_n 0, 1) := by decide +kernel
theorem dX7_letter_129 : decode cX7_letter 129 = .ok (.getfield 48, 3) := by decide +kernel
theorem dX7_letter_132 : decode cX7_letter 132 = .ok (.bipush 80, 2) := by decide +kernel
theorem dX7_letter_134 : decode cX7_letter 134 = .ok (.iaload, 1) := by decide +kernel
theorem dX7_letter_135 : decode cX7_letter 135 = .ok (.iastore, 1) := by decide +kernel
theorem dX7_letter_136 : decode cX7_letter 136 = .ok (.aload_n 0, 1) := by decide +kernel
theorem dX7_letter_137 : decode cX7_letter 137 = .ok (.getfield 51, 3) := by decide +kernel
theorem dX7_letter_140 : decode cX7_letter 140 = .ok (.iload_n 3, 1) := by decide +kernel
theorem dX7_letter_141 : decode cX7_letter 141 = .ok (.aload_n 0, 1) := by decide +kernel
theorem dX7_letter_142 : decode cX7_letter 142 = .ok (.getfield 51, 3) := by decide +kernel
theorem dX7_letter_145 : decode cX7_letter 145 = .ok (.bipush 80, 2) := by decide +kernel
theorem dX7_letter_147 : decode cX7_letter 147 = .ok (.iaload, 1) := by decide +kernel
theorem dX7_letter_148 : decode cX7_letter 148 = .ok (.iastore, 1) := by decide +kernel
theorem dX7_letter_149 : decode cX7_letter 149 = .ok (.iconst 0, 1) := by decide +kernel
theorem dX7_letter_150 : decode cX7_letter 150 = .ok (.istore 4, 2) := by decide +kernel
theorem dX7_letter_152 : decode cX7_letter 152 = .ok (.iload 4, 2) := by decide +kernel
theorem dX7_letter_154 : decode cX7_letter 154 = .ok (.aload_n 0, 1) := by decide +kernel
theorem dX7_letter_155 : decode cX7_letter 155 = .ok (.getfield 111, 3) := by decide +kernel
theorem dX7_letter_158 : decode cX7_letter 158 = .ok (.if_icmp .ge 29, 3) := by decide +kernel
theorem dX7_letter_161 : decode cX7_letter 161 = .ok (.aload_n 0, 1) := by decide +kernel
theorem dX7_letter_162 : decode cX7_letter 162 = .ok (.getfield 54, 3) := by decide +kernel
theorem dX7_letter_165 : decode cX7_letter 165 = .ok (.sipush 400, 3) := by decide +kernel
theorem dX7_letter_168 : decode cX7_letter 168 = .ok (.iload_n 3, 1) := by decide +kernel
theorem dX7_letter_169 : decode cX7_letter 169 = .ok (.imul, 1) := by decide +kernel
theorem dX7_letter_170 : decode cX7_letter 170 = .ok (.iload 4, 2) := by decide +kernel
theorem dX7_letter_172 : decode cX7_letter 172 = .ok (.iadd, 1) := by decide +kernel
theorem dX7_letter_173 : decode cX7_letter 173 = .ok (.aload_n 0, 1) := by decide +kernel
theorem dX7_letter_174 : decode cX7_letter 174 = .ok (.getfield 78, 3) := by decide +kernel
theorem dX7_letter_177 : decode cX7_letter 177 = .ok (.iload 4, 2) := by decide +kernel
theorem dX7_letter_179 : decode cX7_letter 179 = .ok (.baload, 1) := by decide +kernel
theorem dX7_letter_180 : decode cX7_letter 180 = .ok (.bastore, 1) := by decide +kernel
theorem dX7_letter_181 : decode cX7_letter 181 = .ok (.iinc 4 1, 3) := by decide +kernel
theorem dX7_letter_184 : decode cX7_letter 184 = .ok (.goto (-32), 3) := by decide +kernel
theorem dX7_letter_187 : decode cX7_letter 187 = .ok (.iconst 0, 1) := by decide +kernel
theorem dX7_letter_188 : decode cX7_letter 188 = .ok (.istore 4, 2) := by decide +kernel
theorem dX7_letter_190 : decode cX7_letter 190 = .ok (.iload 4, 2) := by decide +kernel
theorem dX7_letter_192 : decode cX7_letter 192 = .ok (.aload_n 0, 1) := by decide +kernel
theorem dX7_letter_193 : decode cX7_letter 193 = .ok (.getfield 51, 3) := by decide +kernel
theorem dX7_letter_196 : decode cX7_letter 196 = .ok (.iload_n 3, 1) := by decide +kernel
theorem dX7_letter_197 : decode cX7_letter 197 = .ok (.iaload, 1) := by decide +kernel
theorem dX7_letter_198 : decode cX7_letter 198 = .ok (.if_icmp .ge 78, 3) := by decide +kernel
theorem dX7_letter_201 : decode cX7_letter 201 = .ok (.aload_n 0, 1) := by decide +kernel
theorem dX7_letter_202 : decode cX7_letter 202 = .ok (.getfield 57, 3) := by decide +kernel
theorem dX7_letter_205 : decode cX7_letter 205 = .ok (.bipush 60, 2) := by decide +kernel
theorem dX7_letter_207 : decode cX7_letter 207 = .ok (.iload_n 3, 1) := by decide +kernel
theorem dX7_letter_208 : decode cX7_letter 208 = .ok (.imul, 1) := by decide +kernel
theorem dX7_letter_209 : decode cX7_letter 209 = .ok (.iload 4, 2) := by decide +kernel
theorem dX7_letter_211 : decode cX7_letter 211 = .ok (.iadd, 1) := by decide +kernel
theorem dX7_letter_212 : decode cX7_letter 212 = .ok (.aload_n 0, 1) := by decide +kernel
theorem dX7_letter_213 : decode cX7_letter 213 = .ok (.getfield 57, 3) := by decide +kernel
theorem dX7_letter_216 : decode cX7_letter 216 = .ok (.sipush 4800, 3) := by decide +kernel
theorem dX7_letter_219 : decode cX7_letter 219 = .ok (.iload 4, 2) := by decide +kernel
theorem dX7_letter_221 : decode cX7_letter 221 = .ok (.iadd, 1) := by decide +kernel
theorem dX7_letter_222 : decode cX7_letter 222 = .ok (.iaload, 1) := by decide +kernel
theorem dX7_letter_223 : decode cX7_letter 223 = .ok (.iastore, 1) := by decide +kernel
theorem dX7_letter_224 : decode cX7_letter 224 = .ok (.aload_n 0, 1) := by decide +kernel
theorem dX7_letter_225 : decode cX7_letter 225 = .ok (.getfield 60, 3) := by decide +kernel
theorem dX7_letter_228 : decode cX7_letter 228 = .ok (.bipush 60, 2) := by decide +kernel
theorem dX7_letter_230 : decode cX7_letter 230 = .ok (.iload_n 3, 1) := by decide +kernel
theorem dX7_letter_231 : decode cX7_letter 231 = .ok (.imul, 1) := by decide +kernel
theorem dX7_letter_232 : decode cX7_letter 232 = .ok (.iload 4, 2) := by decide +kernel
theorem dX7_letter_234 : decode cX7_letter 234 = .ok (.iadd, 1) := by decide +kernel
theorem dX7_letter_235 : decode cX7_letter 235 = .ok (.aload_n 0, 1) := by decide +kernel
theorem dX7_letter_236 : decode cX7_letter 236 = .ok (.getfield 60, 3) := by decide +kernel
theorem dX7_letter_239 : decode cX7_letter 239 = .ok (.sipush 4800, 3) := by decide +kernel
theorem dX7_letter_242 : decode cX7_letter 242 = .ok (.iload 4, 2) := by decide +kernel
theorem dX7_letter_244 : decode cX7_letter 244 = .ok (.iadd, 1) := by decide +kernel
theorem dX7_letter_245 : decode cX7_letter 245 = .ok (.iaload, 1) := by decide +kernel
theorem dX7_letter_246 : decode cX7_letter 246 = .ok (.iastore, 1) := by decide +kernel
theorem dX7_letter_247 : decode cX7_letter 247 = .ok (.aload_n 0, 1) := by decide +kernel
theorem dX7_letter_248 : decode cX7_letter 248 = .ok (.getfield 63, 3) := by decide +kernel
theorem dX7_letter_251 : decode cX7_letter 251 = .ok (.bipush 60, 2) := by decide +kernel
theorem dX7_letter_253 : decode cX7_letter 253 = .ok (.iload_n 3, 1) := by decide +kernel
theorem dX7_letter_254 : decode cX7_letter 254 = .ok (.imul, 1) := by decide +kernel
theorem dX7_letter_255 : decode cX7_letter 255 = .ok (.iload 4, 2) := by decide +kernel
theorem dX7_letter_257 : decode cX7_letter 257 = .ok (.iadd, 1) := by decide +kernel
theorem dX7_letter_258 : decode cX7_letter 258 = .ok (.aload_n 0, 1) := by decide +kernel
theorem dX7_letter_259 : decode cX7_letter 259 = .ok (.getfield 63, 3) := by decide +kernel
theorem dX7_letter_262 : decode cX7_letter 262 = .ok (.sipush 4800, 3) := by decide +kernel
theorem dX7_letter_265 : decode cX7_letter 265 = .ok (.iload 4, 2) := by decide +kernel
theorem dX7_letter_267 : decode cX7_letter 267 = .ok (.iadd, 1) := by decide +kernel
theorem dX7_letter_268 : decode cX7_letter 268 = .ok (.iaload, 1) := by decide +kernel
theorem dX7_letter_269 : decode cX7_letter 269 = .ok (.iastore, 1) := by decide +kernel
theorem dX7_letter_270 : decode cX7_letter 270 = .ok (.iinc 4 1, 3) := by decide +kernel
theorem dX7_letter_273 : decode cX7_letter 273 = .ok (.goto (-83), 3) := by decide +kernel
theorem dX7_letter_276 : decode cX7_letter 276 = .ok (.iconst 0, 1) := by decide +kernel
theorem dX7_letter_277 : decode cX7_letter 277 = .ok (.istore 4, 2) := by decide +kernel
theorem dX7_letter_279 : decode cX7_letter 279 = .ok (.iload 4, 2) := by decide +kernel
theorem dX7_letter_281 : decode cX7_letter 281 = .ok (.aload_n 0, 1) := by decide +kernel
theorem dX7_letter_282 : decode cX7_letter 282 = .ok (.getfield 48, 3) := by decide +kernel
theorem dX7_letter_285 : decode cX7_letter 285 = .ok (.iload_n 3, 1) := by decide +kernel
theorem dX7_letter_286 : decode cX7_letter 286 = .ok (.iaload, 1) := by decide +kernel
theorem dX7_letter_287 : decode cX7_letter 287 = .ok (.if_icmp .ge 36, 3) := by decide +kernel
theorem dX7_letter_290 : decode cX7_letter 290 = .ok (.aload_n 0, 1) := by decide +kernel
theorem dX7_letter_291 : decode cX7_letter 291 = .ok (.getfield 72, 3) := by decide +kernel
theorem dX7_letter_294 : decode cX7_letter 294 = .ok (.bipush 6, 2) := by decide +kernel
theorem dX7_letter_296 : decode cX7_letter 296 = .ok (.iload_n 3, 1) := by decide +kernel
theorem dX7_letter_297 : decode cX7_letter 297 = .ok (.imul, 1) := by decide +kernel
theorem dX7_letter_298 : decode cX7_letter 298 = .ok (.iload 4, 2) := by decide +kernel
theorem dX7_letter_300 : decode cX7_letter 300 = .ok (.iadd, 1) := by decide +kernel
theorem dX7_letter_301 : decode cX7_letter 301 = .ok (.iconst (-1), 1) := by decide +kernel
theorem dX7_letter_302 : decode cX7_letter 302 = .ok (.iastore, 1) := by decide +kernel
theorem dX7_letter_303 : decode cX7_letter 303 = .ok (.aload_n 0, 1) := by decide +kernel
theorem dX7_letter_304 : decode cX7_letter 304 = .ok (.iload_n 3, 1) := by decide +kernel
theorem dX7_letter_305 : decode cX7_letter 305 = .ok (.iload 4, 2) := by decide +kernel
theorem dX7_letter_307 : decode cX7_letter 307 = .ok (.aload_n 0, 1) := by decide +kernel
theorem dX7_letter_308 : decode cX7_letter 308 = .ok (.iload_n 3, 1) := by decide +kernel
theorem dX7_letter_309 : decode cX7_letter 309 = .ok (.iload 4, 2) := by decide +kernel
theorem dX7_letter_311 : decode cX7_letter 311 = .ok (.invokevirtual 190, 3) := by decide +kernel
theorem dX7_letter_314 : decode cX7_letter 314 = .ok (.invokevirtual 194, 3) := by decide +kernel
theorem dX7_letter_317 : decode cX7_letter 317 = .ok (.iinc 4 1, 3) := by decide +kernel
theorem dX7_letter_320 : decode cX7_letter 320 = .ok (.goto (-41), 3) := by decide +kernel
theorem dX7_letter_323 : decode cX7_letter 323 = .ok (.iload_n 3, 1) := by decide +kernel
theorem dX7_letter_324 : decode cX7_letter 324 = .ok (.ireturn, 1) := by decide +kernel
theorem dX7_hours_0 : decode cX7_hours 0 = .ok (.aload_n 0, 1) := by decide +kernel
theorem dX7_hours_1 : decode cX7_hours 1 = .ok (.iconst 0, 1) := by decide +kernel
theorem dX7_hours_2 : decode cX7_hours 2 = .ok (.putfield 91, 3) := by decide +kernel
theorem dX7_hours_5 : decode cX7_hours 5 = .ok (.aload_n 0, 1) := by decide +kernel
theorem dX7_hours_6 : decode cX7_hours 6 = .ok (.iload_n 1, 1) := by decide +kernel
theorem dX7_hours_7 : decode cX7_hours 7 = .ok (.invokestatic 176, 3) := by decide +kernel
theorem dX7_hours_10 : decode cX7_hours 10 = .ok (.iconst 1, 1) := by decide +kernel
theorem dX7_hours_11 : decode cX7_hours 11 = .ok (.invokevirtual 179, 3) := by decide +kernel
theorem dX7_hours_14 : decode cX7_hours 14 = .ok (.ifCond .ne 26, 3) := by decide +kernel
theorem dX7_hours_17 : decode cX7_hours 17 = .ok (.aload_n 0, 1) := by decide +kernel
theorem dX7_hours_18 : decode cX7_hours 18 = .ok (.iload_n 2, 1) := by decide +kernel
theorem dX7_hours_19 : decode cX7_hours 19 = .ok (.iconst 0, 1) := by decide +kernel
theorem dX7_hours_20 : decode cX7_hours 20 = .ok (.bipush 20, 2) := by decide +kernel
theorem dX7_hours_22 : decode cX7_hours 22 = .ok (.invokestatic 97, 3) := by decide +kernel
theorem dX7_hours_25 : decode cX7_hours 25 = .ok (.ifCond .ne 7, 3) := by decide +kernel
theorem dX7_hours_28 : decode cX7_hours 28 = .ok (.iconst 1, 1) := by decide +kernel
theorem dX7_hours_29 : decode cX7_hours 29 = .ok (.goto 4, 3) := by decide +kernel
theorem dX7_hours_32 : decode cX7_hours 32 = .ok (.iconst 0, 1) := by decide +kernel
theorem dX7_hours_33 : decode cX7_hours 33 = .ok (.iconst 2, 1) := by decide +kernel
theorem dX7_hours_34 : decode cX7_hours 34 = .ok (.invokevirtual 179, 3) := by decide +kernel
theorem dX7_hours_37 : decode cX7_hours 37 = .ok (.ifCond .eq 4, 3) := by decide +kernel
theorem dX7_hours_40 : decode cX7_hours 40 = .ok (.return_, 1) := by decide +kernel
theorem dX7_hours_41 : decode cX7_hours 41 = .ok (.aload_n 0, 1) := by decide +kernel
theorem dX7_hours_42 : decode cX7_hours 42 = .ok (.getfield 39, 3) := by decide +kernel
theorem dX7_hours_45 : decode cX7_hours 45 = .ok (.iload_n 1, 1) := by decide +kernel
theorem dX7_hours_46 : decode cX7_hours 46 = .ok (.iload_n 2, 1) := by decide +kernel
theorem dX7_hours_47 : decode cX7_hours 47 = .ok (.iastore, 1) := by decide +kernel
theorem dX7_hours_48 : decode cX7_hours 48 = .ok (.return_, 1) := by decide +kernel
theorem dX7_isOf_0 : decode cX7_isOf 0 = .ok (.iload_n 2, 1) := by decide +kernel
theorem dX7_isOf_1 : decode cX7_isOf 1 = .ok (.bipush 6, 2) := by decide +kernel
theorem dX7_isOf_3 : decode cX7_isOf 3 = .ok (.idiv, 1) := by decide +kernel
theorem dX7_isOf_4 : decode cX7_isOf 4 = .ok (.aload_n 0, 1) := by decide +kernel
theorem dX7_isOf_5 : decode cX7_isOf 5 = .ok (.getfield 101, 3) := by decide +kernel
theorem dX7_isOf_8 : decode cX7_isOf 8 = .ok (.if_icmp .ge 56, 3) := by decide +kernel
theorem dX7_isOf_11 : decode cX7_isOf 11 = .ok (.iload_n 2, 1) := by decide +kernel
theorem dX7_isOf_12 : decode cX7_isOf 12 = .ok (.bipush 6, 2) := by decide +kernel
theorem dX7_isOf_14 : decode cX7_isOf 14 = .ok (.irem, 1) := by decide +kernel
theorem dX7_isOf_15 : decode cX7_isOf 15 = .ok (.aload_n 0, 1) := by decide +kernel
theorem dX7_isOf_16 : decode cX7_isOf 16 = .ok (.getfield 48, 3) := by decide +kernel
theorem dX7_isOf_19 : decode cX7_isOf 19 = .ok (.iload_n 2, 1) := by decide +kernel
theorem dX7_isOf_20 : decode cX7_isOf 20 = .ok (.bipush 6, 2) := by decide +kernel
theorem dX7_isOf_22 : decode cX7_isOf 22 = .ok (.idiv, 1) := by decide +kernel
theorem dX7_isOf_23 : decode cX7_isOf 23 = .ok (.iaload, 1) := by decide +kernel
theorem dX7_isOf_24 : decode cX7_isOf 24 = .ok (.if_icmp .ge 40, 3) := by decide +kernel
theorem dX7_isOf_27 : decode cX7_isOf 27 = .ok (.aload_n 0, 1) := by decide +kernel
theorem dX7_isOf_28 : decode cX7_isOf 28 = .ok (.getfield 72, 3) := by decide +kernel
theorem dX7_isOf_31 : decode cX7_isOf 31 = .ok (.iload_n 2, 1) := by decide +kernel
theorem dX7_isOf_32 : decode cX7_isOf 32 = .ok (.iaload, 1) := by decide +kernel
theorem dX7_isOf_33 : decode cX7_isOf 33 = .ok (.ifCond .ge 31, 3) := by decide +kernel
theorem dX7_isOf_36 : decode cX7_isOf 36 = .ok (.aload_n 0, 1) := by decide +kernel
theorem dX7_isOf_37 : decode cX7_isOf 37 = .ok (.getfield 66, 3) := by decide +kernel
theorem dX7_isOf_40 : decode cX7_isOf 40 = .ok (.iload_n 2, 1) := by decide +kernel
theorem dX7_isOf_41 : decode cX7_isOf 41 = .ok (.iaload, 1) := by decide +kernel
theorem dX7_isOf_42 : decode cX7_isOf 42 = .ok (.ifCond .lt 22, 3) := by decide +kernel
theorem dX7_isOf_45 : decode cX7_isOf 45 = .ok (.aload_n 0, 1) := by decide +kernel
theorem dX7_isOf_46 : decode cX7_isOf 46 = .ok (.getfield 13, 3) := by decide +kernel
theorem dX7_isOf_49 : decode cX7_isOf 49 = .ok (.aload_n 0, 1) := by decide +kernel
theorem dX7_isOf_50 : decode cX7_isOf 50 = .ok (.getfield 66, 3) := by decide +kernel
theorem dX7_isOf_53 : decode cX7_isOf 53 = .ok (.iload_n 2, 1) := by decide +kernel
theorem dX7_isOf_54 : decode cX7_isOf 54 = .ok (.iaload, 1) := by decide +kernel
theorem dX7_isOf_55 : decode cX7_isOf 55 = .ok (.iaload, 1) := by decide +kernel
theorem dX7_isOf_56 : decode cX7_isOf 56 = .ok (.iload_n 1, 1) := by decide +kernel
theorem dX7_isOf_57 : decode cX7_isOf 57 = .ok (.if_icmp .ne 7, 3) := by decide +kernel
theorem dX7_isOf_60 : decode cX7_isOf 60 = .ok (.iconst 1, 1) := by decide +kernel
theorem dX7_isOf_61 : decode cX7_isOf 61 = .ok (.goto 4, 3) := by decide +kernel
theorem dX7_isOf_64 : decode cX7_isOf 64 = .ok (.iconst 0, 1) := by decide +kernel
theorem dX7_isOf_65 : decode cX7_isOf 65 = .ok (.ireturn, 1) := by decide +kernel
theorem dX7_isAhead_0 : decode cX7_isAhead 0 = .ok (.aload_n 0, 1) := by decide +kernel
theorem dX7_isAhead_1 : decode cX7_isAhead 1 = .ok (.getfield 19, 3) := by decide +kernel
theorem dX7_isAhead_4 : decode cX7_isAhead 4 = .ok (.aload_n 0, 1) := by decide +kernel
theorem dX7_isAhead_5 : decode cX7_isAhead 5 = .ok (.getfield 66, 3) := by decide +kernel
theorem dX7_isAhead_8 : decode cX7_isAhead 8 = .ok (.iload_n 1, 1) := by decide +kernel
theorem dX7_isAhead_9 : decode cX7_isAhead 9 = .ok (.iaload, 1) := by decide +kernel
theorem dX7_isAhead_10 : decode cX7_isAhead 10 = .ok (.baload, 1) := by decide +kernel
theorem dX7_isAhead_11 : decode cX7_isAhead 11 = .ok (.istore_n 3, 1) := by decide +kernel
theorem dX7_isAhead_12 : decode cX7_isAhead 12 = .ok (.aload_n 0, 1) := by decide +kernel
theorem dX7_isAhead_13 : decode cX7_isAhead 13 = .ok (.getfield 19, 3) := by decide +kernel
theorem dX7_isAhead_16 : decode cX7_isAhead 16 = .ok (.aload_n 0, 1) := by decide +kernel
theorem dX7_isAhead_17 : decode cX7_isAhead 17 = .ok (.getfield 66, 3) := by decide +kernel
theorem dX7_isAhead_20 : decode cX7_isAhead 20 = .ok (.iload_n 2, 1) := by decide +kernel
theorem dX7_isAhead_21 : decode cX7_isAhead 21 = .ok (.iaload, 1) := by decide +kernel
theorem dX7_isAhead_22 : decode cX7_isAhead 22 = .ok (.baload, 1) := by decide +kernel
theorem dX7_isAhead_23 : decode cX7_isAhead 23 = .ok (.istore 4, 2) := by decide +kernel
theorem dX7_isAhead_25 : decode cX7_isAhead 25 = .ok (.iload_n 3, 1) := by decide +kernel
theorem dX7_isAhead_26 : decode cX7_isAhead 26 = .ok (.iload 4, 2) := by decide +kernel
theorem dX7_isAhead_28 : decode cX7_isAhead 28 = .ok (.if_icmp .eq 7, 3) := by decide +kernel
theorem dX7_isAhead_31 : decode cX7_isAhead 31 = .ok (.iload_n 3, 1) := by decide +kernel
theorem dX7_isAhead_32 : decode cX7_isAhead 32 = .ok (.goto 23, 3) := by decide +kernel
theorem dX7_isAhead_35 : decode cX7_isAhead 35 = .ok (.aload_n 0, 1) := by decide +kernel
theorem dX7_isAhead_36 : decode cX7_isAhead 36 = .ok (.getfield 69, 3) := by decide +kernel
theorem dX7_isAhead_39 : decode cX7_isAhead 39 = .ok (.iload_n 1, 1) := by decide +kernel
theorem dX7_isAhead_40 : decode cX7_isAhead 40 = .ok (.iaload, 1) := by decide +kernel
theorem dX7_isAhead_41 : decode cX7_isAhead 41 = .ok (.aload_n 0, 1) := by decide +kernel
theorem dX7_isAhead_42 : decode cX7_isAhead 42 = .ok (.getfield 69, 3) := by decide +kernel
theorem dX7_isAhead_45 : decode cX7_isAhead 45 = .ok (.iload_n 2, 1) := by decide +kernel
theorem dX7_isAhead_46 : decode cX7_isAhead 46 = .ok (.iaload, 1) := by decide +kernel
theorem dX7_isAhead_47 : decode cX7_isAhead 47 = .ok (.if_icmp .ge 7, 3) := by decide +kernel
theorem dX7_isAhead_50 : decode cX7_isAhead 50 = .ok (.iconst 1, 1) := by decide +kernel
theorem dX7_isAhead_51 : decode cX7_isAhead 51 = .ok (.goto 4, 3) := by decide +kernel
theorem dX7_isAhead_54 : decode cX7_isAhead 54 = .ok (.iconst 0, 1) := by decide +kernel
theorem dX7_isAhead_55 : decode cX7_isAhead 55 = .ok (.ireturn, 1) := by decide +kernel
theorem dX7_next_0 : decode cX7_next 0 = .ok (.iconst (-1), 1) := by decide +kernel
theorem dX7_next_1 : decode cX7_next 1 = .ok (.istore_n 2, 1) := by decide +kernel
theorem dX7_next_2 : decode cX7_next 2 = .ok (.iconst 0, 1) := by decide +kernel
theorem dX7_next_3 : decode cX7_next 3 = .ok (.istore_n 3, 1) := by decide +kernel
theorem dX7_next_4 : decode cX7_next 4 = .ok (.iload_n 3, 1) := by decide +kernel
theorem dX7_next_5 : decode cX7_next 5 = .ok (.sipush 480, 3) := by decide +kernel
theorem dX7_next_8 : decode cX7_next 8 = .ok (.if_icmp .ge 33, 3) := by decide +kernel
theorem dX7_next_11 : decode cX7_next 11 = .ok (.aload_n 0, 1) := by decide +kernel
theorem dX7_next_12 : decode cX7_next 12 = .ok (.iload_n 1, 1) := by decide +kernel
theorem dX7_next_13 : decode cX7_next 13 = .ok (.iload_n 3, 1) := by decide +kernel
theorem dX7_next_14 : decode cX7_next 14 = .ok (.invokevirtual 204, 3) := by decide +kernel
theorem dX7_next_17 : decode cX7_next 17 = .ok (.ifCond .eq 18, 3) := by decide +kernel
theorem dX7_next_20 : decode cX7_next 20 = .ok (.iload_n 2, 1) := by decide +kernel
theorem dX7_next_21 : decode cX7_next 21 = .ok (.ifCond .lt 12, 3) := by decide +kernel
theorem dX7_next_24 : decode cX7_next 24 = .ok (.aload_n 0, 1) := by decide +kernel
theorem dX7_next_25 : decode cX7_next 25 = .ok (.iload_n 3, 1) := by decide +kernel
theorem dX7_next_26 : decode cX7_next 26 = .ok (.iload_n 2, 1) := by decide +kernel
theorem dX7_next_27 : decode cX7_next 27 = .ok (.invokevirtual 207, 3) := by decide +kernel
theorem dX7_next_30 : decode cX7_next 30 = .ok (.ifCond .eq 5, 3) := by decide +kernel
theorem dX7_next_33 : decode cX7_next 33 = .ok (.iload_n 3, 1) := by decide +kernel
theorem dX7_next_34 : decode cX7_next 34 = .ok (.istore_n 2, 1) := by decide +kernel
theorem dX7_next_35 : decode cX7_next 35 = .ok (.iinc 3 1, 3) := by decide +kernel
theorem dX7_next_38 : decode cX7_next 38 = .ok (.goto (-34), 3) := by decide +kernel
theorem dX7_next_41 : decode cX7_next 41 = .ok (.iload_n 2, 1) := by decide +kernel
theorem dX7_next_42 : decode cX7_next 42 = .ok (.ireturn, 1) := by decide +kernel
theorem dX7_days_0 : decode cX7_days 0 = .ok (.aload_n 0, 1) := by decide +kernel
theorem dX7_days_1 : decode cX7_days 1 = .ok (.iconst 0, 1) := by decide +kernel
theorem dX7_days_2 : decode cX7_days 2 = .ok (.putfield 91, 3) := by decide +kernel
theorem dX7_days_5 : decode cX7_days 5 = .ok (.aload_n 0, 1) := by decide +kernel
theorem dX7_days_6 : decode cX7_days 6 = .ok (.iload_n 1, 1) := by decide +kernel
theorem dX7_days_7 : decode cX7_days 7 = .ok (.iconst 0, 1) := by decide +kernel
theorem dX7_days_8 : decode cX7_days 8 = .ok (.bipush 60, 2) := by decide +kernel
theorem dX7_days_10 : decode cX7_days 10 = .ok (.invokestatic 97, 3) := by decide +kernel
theorem dX7_days_13 : decode cX7_days 13 = .ok (.ifCond .ne 7, 3) := by decide +kernel
theorem dX7_days_16 : decode cX7_days 16 = .ok (.iconst 1, 1) := by decide +kernel
theorem dX7_days_17 : decode cX7_days 17 = .ok (.goto 4, 3) := by decide +kernel
theorem dX7_days_20 : decode cX7_days 20 = .ok (.iconst 0, 1) := by decide +kernel
theorem dX7_days_21 : decode cX7_days 21 = .ok (.iconst 1, 1) := by decide +kernel
theorem dX7_days_22 : decode cX7_days 22 = .ok (.invokevirtual 179, 3) := by decide +kernel
theorem dX7_days_25 : decode cX7_days 25 = .ok (.ifCond .eq 5, 3) := by decide +kernel
theorem dX7_days_28 : decode cX7_days 28 = .ok (.iconst 0, 1) := by decide +kernel
theorem dX7_days_29 : decode cX7_days 29 = .ok (.ireturn, 1) := by decide +kernel
theorem dX7_days_30 : decode cX7_days 30 = .ok (.iconst 0, 1) := by decide +kernel
theorem dX7_days_31 : decode cX7_days 31 = .ok (.istore_n 2, 1) := by decide +kernel
theorem dX7_days_32 : decode cX7_days 32 = .ok (.iload_n 2, 1) := by decide +kernel
theorem dX7_days_33 : decode cX7_days 33 = .ok (.iload_n 1, 1) := by decide +kernel
theorem dX7_days_34 : decode cX7_days 34 = .ok (.if_icmp .ge 85, 3) := by decide +kernel
theorem dX7_days_37 : decode cX7_days 37 = .ok (.aload_n 0, 1) := by decide +kernel
theorem dX7_days_38 : decode cX7_days 38 = .ok (.getfield 201, 3) := by decide +kernel
theorem dX7_days_41 : decode cX7_days 41 = .ok (.sipush 400, 3) := by decide +kernel
theorem dX7_days_44 : decode cX7_days 44 = .ok (.if_icmp .ge 75, 3) := by decide +kernel
theorem dX7_days_47 : decode cX7_days 47 = .ok (.aload_n 0, 1) := by decide +kernel
theorem dX7_days_48 : decode cX7_days 48 = .ok (.dup, 1) := by decide +kernel
theorem dX7_days_49 : decode cX7_days 49 = .ok (.getfield 201, 3) := by decide +kernel
theorem dX7_days_52 : decode cX7_days 52 = .ok (.iconst 1, 1) := by decide +kernel
theorem dX7_days_53 : decode cX7_days 53 = .ok (.iadd, 1) := by decide +kernel
theorem dX7_days_54 : decode cX7_days 54 = .ok (.putfield 201, 3) := by decide +kernel
theorem dX7_days_57 : decode cX7_days 57 = .ok (.iconst 0, 1) := by decide +kernel
theorem dX7_days_58 : decode cX7_days 58 = .ok (.istore_n 3, 1) := by decide +kernel
theorem dX7_days_59 : decode cX7_days 59 = .ok (.iload_n 3, 1) := by decide +kernel
theorem dX7_days_60 : decode cX7_days 60 = .ok (.iconst 4, 1) := by decide +kernel
theorem dX7_days_61 : decode cX7_days 61 = .ok (.if_icmp .ge 52, 3) := by decide +kernel
theorem dX7_days_64 : decode cX7_days 64 = .ok (.iconst 0, 1) := by decide +kernel
theorem dX7_days_65 : decode cX7_days 65 = .ok (.istore 4, 2) := by decide +kernel
theorem dX7_days_67 : decode cX7_days 67 = .ok (.iload 4, 2) := by decide +kernel
theorem dX7_days_69 : decode cX7_days 69 = .ok (.aload_n 0, 1) := by decide +kernel
theorem dX7_days_70 : decode cX7_days 70 = .ok (.getfield 39, 3) := by decide +kernel
theorem dX7_days_73 : decode cX7_days 73 = .ok (.iload_n 3, 1) := by decide +kernel
theorem dX7_days_74 : decode cX7_days 74 = .ok (.iaload, 1) := by decide +kernel
theorem dX7_days_75 : decode cX7_days 75 = .ok (.if_icmp .ge 32, 3) := by decide +kernel
theorem dX7_days_78 : decode cX7_days 78 = .ok (.aload_n 0, 1) := by decide +kernel
theorem dX7_days_79 : decode cX7_days 79 = .ok (.iload_n 3, 1) := by decide +kernel
theorem dX7_days_80 : decode cX7_days 80 = .ok (.invokevirtual 210, 3) := by decide +kernel
theorem dX7_days_83 : decode cX7_days 83 = .ok (.istore 5, 2) := by decide +kernel
theorem dX7_days_85 : decode cX7_days 85 = .ok (.iload 5, 2) := by decide +kernel
theorem dX7_days_87 : decode cX7_days 87 = .ok (.ifCond .lt 14, 3) := by decide +kernel
theorem dX7_days_90 : decode cX7_days 90 = .ok (.aload_n 0, 1) := by decide +kernel
theorem dX7_days_91 : decode cX7_days 91 = .ok (.getfield 72, 3) := by decide +kernel
theorem dX7_days_94 : decode cX7_days 94 = .ok (.iload 5, 2) := by decide +kernel
theorem dX7_days_96 : decode cX7_days 96 = .ok (.aload_n 0, 1) := by decide +kernel
theorem dX7_days_97 : decode cX7_days 97 = .ok (.getfield 201, 3) := by decide +kernel
theorem dX7_days_100 : decode cX7_days 100 = .ok (.iastore, 1) := by decide +kernel
theorem dX7_days_101 : decode cX7_days 101 = .ok (.iinc 4 1, 3) := by decide +kernel
theorem dX7_days_104 : decode cX7_days 104 = .ok (.goto (-37), 3) := by decide +kernel
theorem dX7_days_107 : decode cX7_days 107 = .ok (.iinc 3 1, 3) := by decide +kernel
theorem dX7_days_110 : decode cX7_days 110 = .ok (.goto (-51), 3) := by decide +kernel
theorem dX7_days_113 : decode cX7_days 113 = .ok (.iinc 2 1, 3) := by decide +kernel
theorem dX7_days_116 : decode cX7_days 116 = .ok (.goto (-84), 3) := by decide +kernel
theorem dX7_days_119 : decode cX7_days 119 = .ok (.aload_n 0, 1) := by decide +kernel
theorem dX7_days_120 : decode cX7_days 120 = .ok (.getfield 201, 3) := by decide +kernel
theorem dX7_days_123 : decode cX7_days 123 = .ok (.ireturn, 1) := by decide +kernel
theorem dX7_answer_0 : decode cX7_answer 0 = .ok (.aload_n 0, 1) := by decide +kernel
theorem dX7_answer_1 : decode cX7_answer 1 = .ok (.iconst 0, 1) := by decide +kernel
theorem dX7_answer_2 : decode cX7_answer 2 = .ok (.putfield 91, 3) := by decide +kernel
theorem dX7_answer_5 : decode cX7_answer 5 = .ok (.aload_n 0, 1) := by decide +kernel
theorem dX7_answer_6 : decode cX7_answer 6 = .ok (.aload_n 0, 1) := by decide +kernel
theorem dX7_answer_7 : decode cX7_answer 7 = .ok (.iload_n 1, 1) := by decide +kernel
theorem dX7_answer_8 : decode cX7_answer 8 = .ok (.iload_n 2, 1) := by decide +kernel
theorem dX7_answer_9 : decode cX7_answer 9 = .ok (.invokevirtual 214, 3) := by decide +kernel
theorem dX7_answer_12 : decode cX7_answer 12 = .ok (.iconst 1, 1) := by decide +kernel
theorem dX7_answer_13 : decode cX7_answer 13 = .ok (.invokevirtual 179, 3) := by decide +kernel
theorem dX7_answer_16 : decode cX7_answer 16 = .ok (.ifCond .ne 17, 3) := by decide +kernel
theorem dX7_answer_19 : decode cX7_answer 19 = .ok (.aload_n 0, 1) := by decide +kernel
theorem dX7_answer_20 : decode cX7_answer 20 = .ok (.getfield 72, 3) := by decide +kernel
theorem dX7_answer_23 : decode cX7_answer 23 = .ok (.bipush 6, 2) := by decide +kernel
theorem dX7_answer_25 : decode cX7_answer 25 = .ok (.iload_n 1, 1) := by decide +kernel
theorem dX7_answer_26 : decode cX7_answer 26 = .ok (.imul, 1) := by decide +kernel
theorem dX7_answer_27 : decode cX7_answer 27 = .ok (.iload_n 2, 1) := by decide +kernel
theorem dX7_answer_28 : decode cX7_answer 28 = .ok (.iadd, 1) := by decide +kernel
theorem dX7_answer_29 : decode cX7_answer 29 = .ok (.iaload, 1) := by decide +kernel
theorem dX7_answer_30 : decode cX7_answer 30 = .ok (.ifCond .lt 5, 3) := by decide +kernel
theorem dX7_answer_33 : decode cX7_answer 33 = .ok (.iconst 0, 1) := by decide +kernel
theorem dX7_answer_34 : decode cX7_answer 34 = .ok (.ireturn, 1) := by decide +kernel
theorem dX7_answer_35 : decode cX7_answer 35 = .ok (.aload_n 0, 1) := by decide +kernel
theorem dX7_answer_36 : decode cX7_answer 36 = .ok (.getfield 72, 3) := by decide +kernel
theorem dX7_answer_39 : decode cX7_answer 39 = .ok (.bipush 6, 2) := by decide +kernel
theorem dX7_answer_41 : decode cX7_answer 41 = .ok (.iload_n 1, 1) := by decide +kernel
theorem dX7_answer_42 : decode cX7_answer 42 = .ok (.imul, 1) := by decide +kernel
theorem dX7_answer_43 : decode cX7_answer 43 = .ok (.iload_n 2, 1) := by decide +kernel
theorem dX7_answer_44 : decode cX7_answer 44 = .ok (.iadd, 1) := by decide +kernel
theorem dX7_answer_45 : decode cX7_answer 45 = .ok (.aload_n 0, 1) := by decide +kernel
theorem dX7_answer_46 : decode cX7_answer 46 = .ok (.getfield 201, 3) := by decide +kernel
theorem dX7_answer_49 : decode cX7_answer 49 = .ok (.iastore, 1) := by decide +kernel
theorem dX7_answer_50 : decode cX7_answer 50 = .ok (.iconst 1, 1) := by decide +kernel
theorem dX7_answer_51 : decode cX7_answer 51 = .ok (.ireturn, 1) := by decide +kernel
theorem dX7_waits_0 : decode cX7_waits 0 = .ok (.aload_n 0, 1) := by decide +kernel
theorem dX7_waits_1 : decode cX7_waits 1 = .ok (.iconst 0, 1) := by decide +kernel
theorem dX7_waits_2 : decode cX7_waits 2 = .ok (.putfield 91, 3) := by decide +kernel
theorem dX7_waits_5 : decode cX7_waits 5 = .ok (.aload_n 0, 1) := by decide +kernel
theorem dX7_waits_6 : decode cX7_waits 6 = .ok (.iload_n 1, 1) := by decide +kernel
theorem dX7_waits_7 : decode cX7_waits 7 = .ok (.invokestatic 176, 3) := by decide +kernel
theorem dX7_waits_10 : decode cX7_waits 10 = .ok (.iconst 1, 1) := by decide +kernel
theorem dX7_waits_11 : decode cX7_waits 11 = .ok (.invokevirtual 179, 3) := by decide +kernel
theorem dX7_waits_14 : decode cX7_waits 14 = .ok (.ifCond .eq 5, 3) := by decide +kernel
theorem dX7_waits_17 : decode cX7_waits 17 = .ok (.iconst 0, 1) := by decide +kernel
theorem dX7_waits_18 : decode cX7_waits 18 = .ok (.ireturn, 1) := by decide +kernel
theorem dX7_waits_19 : decode cX7_waits 19 = .ok (.iconst 0, 1) := by decide +kernel
theorem dX7_waits_20 : decode cX7_waits 20 = .ok (.istore_n 2, 1) := by decide +kernel
theorem dX7_waits_21 : decode cX7_waits 21 = .ok (.iconst 0, 1) := by decide +kernel
theorem dX7_waits_22 : decode cX7_waits 22 = .ok (.istore_n 3, 1) := by decide +kernel
theorem dX7_waits_23 : decode cX7_waits 23 = .ok (.iload_n 3, 1) := by decide +kernel
theorem dX7_waits_24 : decode cX7_waits 24 = .ok (.sipush 480, 3) := by decide +kernel
theorem dX7_waits_27 : decode cX7_waits 27 = .ok (.if_icmp .ge 26, 3) := by decide +kernel
theorem dX7_waits_30 : decode cX7_waits 30 = .ok (.iload_n 2, 1) := by decide +kernel
theorem dX7_waits_31 : decode cX7_waits 31 = .ok (.aload_n 0, 1) := by decide +kernel
theorem dX7_waits_32 : decode cX7_waits 32 = .ok (.iload_n 1, 1) := by decide +kernel
theorem dX7_waits_33 : decode cX7_waits 33 = .ok (.iload_n 3, 1) := by decide +kernel
theorem dX7_waits_34 : decode cX7_waits 34 = .ok (.invokevirtual 204, 3) := by decide +kernel
theorem dX7_waits_37 : decode cX7_waits 37 = .ok (.ifCond .eq 7, 3) := by decide +kernel
theorem dX7_waits_40 : decode cX7_waits 40 = .ok (.iconst 1, 1) := by decide +kernel
theorem dX7_waits_41 : decode cX7_waits 41 = .ok (.goto 4, 3) := by decide +kernel
theorem dX7_waits_44 : decode cX7_waits 44 = .ok (.iconst 0, 1) := by decide +kernel
theorem dX7_waits_45 : decode cX7_waits 45 = .ok (.iadd, 1) := by decide +kernel
theorem dX7_waits_46 : decode cX7_waits 46 = .ok (.istore_n 2, 1) := by decide +kernel
theorem dX7_waits_47 : decode cX7_waits 47 = .ok (.iinc 3 1, 3) := by decide +kernel
theorem dX7_waits_50 : decode cX7_waits 50 = .ok (.goto (-27), 3) := by decide +kernel
theorem dX7_waits_53 : decode cX7_waits 53 = .ok (.iload_n 2, 1) := by decide +kernel
theorem dX7_waits_54 : decode cX7_waits 54 = .ok (.ireturn, 1) := by decide +kernel
theorem dX7_late_0 : decode cX7_late 0 = .ok (.aload_n 0, 1) := by decide +kernel
theorem dX7_late_1 : decode cX7_late 1 = .ok (.iconst 0, 1) := by decide +kernel
theorem dX7_late_2 : decode cX7_late 2 = .ok (.putfield 91, 3) := by decide +kernel
theorem dX7_late_5 : decode cX7_late 5 = .ok (.aload_n 0, 1) := by decide +kernel
theorem dX7_late_6 : decode cX7_late 6 = .ok (.iload_n 1, 1) := by decide +kernel
theorem dX7_late_7 : decode cX7_late 7 = .ok (.invokestatic 176, 3) := by decide +kernel
theorem dX7_late_10 : decode cX7_late 10 = .ok (.iconst 1, 1) := by decide +kernel
theorem dX7_late_11 : decode cX7_late 11 = .ok (.invokevirtual 179, 3) := by decide +kernel
theorem dX7_late_14 : decode cX7_late 14 = .ok (.ifCond .eq 5, 3) := by decide +kernel
theorem dX7_late_17 : decode cX7_late 17 = .ok (.iconst 0, 1) := by decide +kernel
theorem dX7_late_18 : decode cX7_late 18 = .ok (.ireturn, 1) := by decide +kernel
theorem dX7_late_19 : decode cX7_late 19 = .ok (.iconst 0, 1) := by decide +kernel
theorem dX7_late_20 : decode cX7_late 20 = .ok (.istore_n 2, 1) := by decide +kernel
theorem dX7_late_21 : decode cX7_late 21 = .ok (.iconst 0, 1) := by decide +kernel
theorem dX7_late_22 : decode cX7_late 22 = .ok (.istore_n 3, 1) := by decide +kernel
theorem dX7_late_23 : decode cX7_late 23 = .ok (.iconst 0, 1) := by decide +kernel
theorem dX7_late_24 : decode cX7_late 24 = .ok (.istore 4, 2) := by decide +kernel
theorem dX7_late_26 : decode cX7_late 26 = .ok (.iload 4, 2) := by decide +kernel
theorem dX7_late_28 : decode cX7_late 28 = .ok (.sipush 460, 3) := by decide +kernel
theorem dX7_late_31 : decode cX7_late 31 = .ok (.if_icmp .gt 80, 3) := by decide +kernel
theorem dX7_late_34 : decode cX7_late 34 = .ok (.iconst 0, 1) := by decide +kernel
theorem dX7_late_35 : decode cX7_late 35 = .ok (.istore 5, 2) := by decide +kernel
theorem dX7_late_37 : decode cX7_late 37 = .ok (.iload 5, 2) := by decide +kernel
theorem dX7_late_39 : decode cX7_late 39 = .ok (.sipush 480, 3) := by decide +kernel
theorem dX7_late_42 : decode cX7_late 42 = .ok (.if_icmp .ge 63, 3) := by decide +kernel
theorem dX7_late_45 : decode cX7_late 45 = .ok (.aload_n 0, 1) := by decide +kernel
theorem dX7_late_46 : decode cX7_late 46 = .ok (.iload_n 1, 1) := by decide +kernel
theorem dX7_late_47 : decode cX7_late 47 = .ok (.iload 5, 2) := by decide +kernel
theorem dX7_late_49 : decode cX7_late 49 = .ok (.invokevirtual 204, 3) := by decide +kernel
theorem dX7_late_52 : decode cX7_late 52 = .ok (.ifCond .eq 47, 3) := by decide +kernel
theorem dX7_late_55 : decode cX7_late 55 = .ok (.aload_n 0, 1) := by decide +kernel
theorem dX7_late_56 : decode cX7_late 56 = .ok (.getfield 69, 3) := by decide +kernel
theorem dX7_late_59 : decode cX7_late 59 = .ok (.iload 5, 2) := by decide +kernel
theorem dX7_late_61 : decode cX7_late 61 = .ok (.iaload, 1) := by decide +kernel
theorem dX7_late_62 : decode cX7_late 62 = .ok (.iload 4, 2) := by decide +kernel
theorem dX7_late_64 : decode cX7_late 64 = .ok (.if_icmp .eq 6, 3) := by decide +kernel
theorem dX7_late_67 : decode cX7_late 67 = .ok (.goto 32, 3) := by decide +kernel
theorem dX7_late_70 : decode cX7_late 70 = .ok (.iinc 3 1, 3) := by decide +kernel
theorem dX7_late_73 : decode cX7_late 73 = .ok (.iload_n 2, 1) := by decide +kernel
theorem dX7_late_74 : decode cX7_late 74 = .ok (.iload_n 2, 1) := by decide +kernel
theorem dX7_late_75 : decode cX7_late 75 = .ok (.aload_n 0, 1) := by decide +kernel
theorem dX7_late_76 : decode cX7_late 76 = .ok (.getfield 39, 3) := by decide +kernel
theorem dX7_late_79 : decode cX7_late 79 = .ok (.iload_n 1, 1) := by decide +kernel
theorem dX7_late_80 : decode cX7_late 80 = .ok (.iaload, 1) := by decide +kernel
theorem dX7_late_81 : decode cX7_late 81 = .ok (.iload 4, 2) := by decide +kernel
theorem dX7_late_83 : decode cX7_late 83 = .ok (.aload_n 0, 1) := by decide +kernel
theorem dX7_late_84 : decode cX7_late 84 = .ok (.getfield 201, 3) := by decide +kernel
theorem dX7_late_87 : decode cX7_late 87 = .ok (.isub, 1) := by decide +kernel
theorem dX7_late_88 : decode cX7_late 88 = .ok (.imul, 1) := by decide +kernel
theorem dX7_late_89 : decode cX7_late 89 = .ok (.if_icmp .ge 7, 3) := by decide +kernel
theorem dX7_late_92 : decode cX7_late 92 = .ok (.iconst 1, 1) := by decide +kernel
theorem dX7_late_93 : decode cX7_late 93 = .ok (.goto 4, 3) := by decide +kernel
theorem dX7_late_96 : decode cX7_late 96 = .ok (.iconst 0, 1) := by decide +kernel
theorem dX7_late_97 : decode cX7_late 97 = .ok (.iadd, 1) := by decide +kernel
theorem dX7_late_98 : decode cX7_late 98 = .ok (.istore_n 2, 1) := by decide +kernel
theorem dX7_late_99 : decode cX7_late 99 = .ok (.iinc 5 1, 3) := by decide +kernel
theorem dX7_late_102 : decode cX7_late 102 = .ok (.goto (-65), 3) := by decide +kernel
theorem dX7_late_105 : decode cX7_late 105 = .ok (.iinc 4 1, 3) := by decide +kernel
theorem dX7_late_108 : decode cX7_late 108 = .ok (.goto (-82), 3) := by decide +kernel
theorem dX7_late_111 : decode cX7_late 111 = .ok (.iload_n 3, 1) := by decide +kernel
theorem dX7_late_112 : decode cX7_late 112 = .ok (.iload_n 2, 1) := by decide +kernel
theorem dX7_late_113 : decode cX7_late 113 = .ok (.isub, 1) := by decide +kernel
theorem dX7_late_114 : decode cX7_late 114 = .ok (.ireturn, 1) := by decide +kernel
theorem dX7_point_0 : decode cX7_point 0 = .ok (.aload_n 0, 1) := by decide +kernel
theorem dX7_point_1 : decode cX7_point 1 = .ok (.iconst 0, 1) := by decide +kernel
theorem dX7_point_2 : decode cX7_point 2 = .ok (.putfield 91, 3) := by decide +kernel
theorem dX7_point_5 : decode cX7_point 5 = .ok (.aload_n 0, 1) := by decide +kernel
theorem dX7_point_6 : decode cX7_point 6 = .ok (.aload_n 0, 1) := by decide +kernel
theorem dX7_point_7 : decode cX7_point 7 = .ok (.iload_n 1, 1) := by decide +kernel
theorem dX7_point_8 : decode cX7_point 8 = .ok (.iload_n 2, 1) := by decide +kernel
theorem dX7_point_9 : decode cX7_point 9 = .ok (.invokevirtual 214, 3) := by decide +kernel
theorem dX7_point_12 : decode cX7_point 12 = .ok (.iconst 1, 1) := by decide +kernel
theorem dX7_point_13 : decode cX7_point 13 = .ok (.invokevirtual 179, 3) := by decide +kernel
theorem dX7_point_16 : decode cX7_point 16 = .ok (.ifCond .eq 5, 3) := by decide +kernel
theorem dX7_point_19 : decode cX7_point 19 = .ok (.iconst 0, 1) := by decide +kernel
theorem dX7_point_20 : decode cX7_point 20 = .ok (.ireturn, 1) := by decide +kernel
theorem dX7_point_21 : decode cX7_point 21 = .ok (.bipush 6, 2) := by decide +kernel
theorem dX7_point_23 : decode cX7_point 23 = .ok (.iload_n 1, 1) := by decide +kernel
theorem dX7_point_24 : decode cX7_point 24 = .ok (.imul, 1) := by decide +kernel
theorem dX7_point_25 : decode cX7_point 25 = .ok (.iload_n 2, 1) := by decide +kernel
theorem dX7_point_26 : decode cX7_point 26 = .ok (.iadd, 1) := by decide +kernel
theorem dX7_point_27 : decode cX7_point 27 = .ok (.istore 4, 2) := by decide +kernel
theorem dX7_point_29 : decode cX7_point 29 = .ok (.iconst 0, 1) := by decide +kernel
theorem dX7_point_30 : decode cX7_point 30 = .ok (.istore 5, 2) := by decide +kernel
theorem dX7_point_32 : decode cX7_point 32 = .ok (.iload_n 3, 1) := by decide +kernel
theorem dX7_point_33 : decode cX7_point 33 = .ok (.tableswitch 213 0 4 #[35, 43, 51, 59, 164], 35) := by decide +kernel
theorem dX7_point_68 : decode cX7_point 68 = .ok (.aload_n 0, 1) := by decide +kernel
theorem dX7_point_69 : decode cX7_point 69 = .ok (.getfield 66, 3) := by decide +kernel
theorem dX7_point_72 : decode cX7_point 72 = .ok (.iload 4, 2) := by decide +kernel
theorem dX7_point_74 : decode cX7_point 74 = .ok (.iaload, 1) := by decide +kernel
theorem dX7_point_75 : decode cX7_point 75 = .ok (.ireturn, 1) := by decide +kernel
theorem dX7_point_76 : decode cX7_point 76 = .ok (.aload_n 0, 1) := by decide +kernel
theorem dX7_point_77 : decode cX7_point 77 = .ok (.getfield 69, 3) := by decide +kernel
theorem dX7_point_80 : decode cX7_point 80 = .ok (.iload 4, 2) := by decide +kernel
theorem dX7_point_82 : decode cX7_point 82 = .ok (.iaload, 1) := by decide +kernel
theorem dX7_point_83 : decode cX7_point 83 = .ok (.ireturn, 1) := by decide +kernel
theorem dX7_point_84 : decode cX7_point 84 = .ok (.aload_n 0, 1) := by decide +kernel
theorem dX7_point_85 : decode cX7_point 85 = .ok (.getfield 72, 3) := by decide +kernel
theorem dX7_point_88 : decode cX7_point 88 = .ok (.iload 4, 2) := by decide +kernel
theorem dX7_point_90 : decode cX7_point 90 = .ok (.iaload, 1) := by decide +kernel
theorem dX7_point_91 : decode cX7_point 91 = .ok (.ireturn, 1) := by decide +kernel
theorem dX7_point_92 : decode cX7_point 92 = .ok (.iconst 0, 1) := by decide +kernel
theorem dX7_point_93 : decode cX7_point 93 = .ok (.istore 6, 2) := by decide +kernel
theorem dX7_point_95 : decode cX7_point 95 = .ok (.iload 6, 2) := by decide +kernel
theorem dX7_point_97 : decode cX7_point 97 = .ok (.aload_n 0, 1) := by decide +kernel
theorem dX7_point_98 : decode cX7_point 98 = .ok (.getfield 101, 3) := by decide +kernel
theorem dX7_point_101 : decode cX7_point 101 = .ok (.if_icmp .ge 79, 3) := by decide +kernel
theorem dX7_point_104 : decode cX7_point 104 = .ok (.iconst 0, 1) := by decide +kernel
theorem dX7_point_105 : decode cX7_point 105 = .ok (.istore 7, 2) := by decide +kernel
theorem dX7_point_107 : decode cX7_point 107 = .ok (.iload 7, 2) := by decide +kernel
theorem dX7_point_109 : decode cX7_point 109 = .ok (.aload_n 0, 1) := by decide +kernel
theorem dX7_point_110 : decode cX7_point 110 = .ok (.getfield 48, 3) := by decide +kernel
theorem dX7_point_113 : decode cX7_point 113 = .ok (.iload 6, 2) := by decide +kernel
theorem dX7_point_115 : decode cX7_point 115 = .ok (.iaload, 1) := by decide +kernel
theorem dX7_point_116 : decode cX7_point 116 = .ok (.if_icmp .ge 58, 3) := by decide +kernel
theorem dX7_point_119 : decode cX7_point 119 = .ok (.iload 5, 2) := by decide +kernel
theorem dX7_point_121 : decode cX7_point 121 = .ok (.aload_n 0, 1) := by decide +kernel
theorem dX7_point_122 : decode cX7_point 122 = .ok (.getfield 42, 3) := by decide +kernel
theorem dX7_point_125 : decode cX7_point 125 = .ok (.iload 6, 2) := by decide +kernel
theorem dX7_point_127 : decode cX7_point 127 = .ok (.iaload, 1) := by decide +kernel
theorem dX7_point_128 : decode cX7_point 128 = .ok (.aload_n 0, 1) := by decide +kernel
theorem dX7_point_129 : decode cX7_point 129 = .ok (.getfield 42, 3) := by decide +kernel
theorem dX7_point_132 : decode cX7_point 132 = .ok (.iload_n 1, 1) := by decide +kernel
theorem dX7_point_133 : decode cX7_point 133 = .ok (.iaload, 1) := by decide +kernel
theorem dX7_point_134 : decode cX7_point 134 = .ok (.if_icmp .ne 30, 3) := by decide +kernel
theorem dX7_point_137 : decode cX7_point 137 = .ok (.aload_n 0, 1) := by decide +kernel
theorem dX7_point_138 : decode cX7_point 138 = .ok (.getfield 66, 3) := by decide +kernel
theorem dX7_point_141 : decode cX7_point 141 = .ok (.bipush 6, 2) := by decide +kernel
theorem dX7_point_143 : decode cX7_point 143 = .ok (.iload 6, 2) := by decide +kernel
theorem dX7_point_145 : decode cX7_point 145 = .ok (.imul, 1) := by decide +kernel
theorem dX7_point_146 : decode cX7_point 146 = .ok (.iload 7, 2) := by decide +kernel
theorem dX7_point_148 : decode cX7_point 148 = .ok (.iadd, 1) := by decide +kernel
theorem dX7_point_149 : decode cX7_point 149 = .ok (.iaload, 1) := by decide +kernel
theorem dX7_point_150 : decode cX7_point 150 = .ok (.aload_n 0, 1) := by decide +kernel
theorem dX7_point_151 : decode cX7_point 151 = .ok (.getfield 66, 3) := by decide +kernel
theorem dX7_point_154 : decode cX7_point 154 = .ok (.iload 4, 2) := by decide +kernel
theorem dX7_point_156 : decode cX7_point 156 = .ok (.iaload, 1) := by decide +kernel
theorem dX7_point_157 : decode cX7_point 157 = .ok (.if_icmp .ne 7, 3) := by decide +kernel
theorem dX7_point_160 : decode cX7_point 160 = .ok (.iconst 1, 1) := by decide +kernel
theorem dX7_point_161 : decode cX7_point 161 = .ok (.goto 4, 3) := by decide +kernel
theorem dX7_point_164 : decode cX7_point 164 = .ok (.iconst 0, 1) := by decide +kernel
theorem dX7_point_165 : decode cX7_point 165 = .ok (.iadd, 1) := by decide +kernel
theorem dX7_point_166 : decode cX7_point 166 = .ok (.istore 5, 2) := by decide +kernel
theorem dX7_point_168 : decode cX7_point 168 = .ok (.iinc 7 1, 3) := by decide +kernel
theorem dX7_point_171 : decode cX7_point 171 = .ok (.goto (-64), 3) := by decide +kernel
theorem dX7_point_174 : decode cX7_point 174 = .ok (.iinc 6 1, 3) := by decide +kernel
theorem dX7_point_177 : decode cX7_point 177 = .ok (.goto (-82), 3) := by decide +kernel
theorem dX7_point_180 : decode cX7_point 180 = .ok (.aload_n 0, 1) := by decide +kernel
theorem dX7_point_181 : decode cX7_point 181 = .ok (.getfield 66, 3) := by decide +kernel
theorem dX7_point_184 : decode cX7_point 184 = .ok (.iload 4, 2) := by decide +kernel
theorem dX7_point_186 : decode cX7_point 186 = .ok (.iaload, 1) := by decide +kernel
theorem dX7_point_187 : decode cX7_point 187 = .ok (.ifCond .ge 7, 3) := by decide +kernel
theorem dX7_point_190 : decode cX7_point 190 = .ok (.iconst 0, 1) := by decide +kernel
theorem dX7_point_191 : decode cX7_point 191 = .ok (.goto 5, 3) := by decide +kernel
theorem dX7_point_194 : decode cX7_point 194 = .ok (.iload 5, 2) := by decide +kernel
theorem dX7_point_196 : decode cX7_point 196 = .ok (.ireturn, 1) := by decide +kernel
theorem dX7_point_197 : decode cX7_point 197 = .ok (.iconst 0, 1) := by decide +kernel
theorem dX7_point_198 : decode cX7_point 198 = .ok (.istore 6, 2) := by decide +kernel
theorem dX7_point_200 : decode cX7_point 200 = .ok (.iload 6, 2) := by decide +kernel
theorem dX7_point_202 : decode cX7_point 202 = .ok (.aload_n 0, 1) := by decide +kernel
theorem dX7_point_203 : decode cX7_point 203 = .ok (.getfield 51, 3) := by decide +kernel
theorem dX7_point_206 : decode cX7_point 206 = .ok (.iload_n 1, 1) := by decide +kernel
theorem dX7_point_207 : decode cX7_point 207 = .ok (.iaload, 1) := by decide +kernel
theorem dX7_point_208 : decode cX7_point 208 = .ok (.if_icmp .ge 35, 3) := by decide +kernel
theorem dX7_point_211 : decode cX7_point 211 = .ok (.iload 5, 2) := by decide +kernel
theorem dX7_point_213 : decode cX7_point 213 = .ok (.aload_n 0, 1) := by decide +kernel
theorem dX7_point_214 : decode cX7_point 214 = .ok (.getfield 63, 3) := by decide +kernel
theorem dX7_point_217 : decode cX7_point 217 = .ok (.bipush 60, 2) := by decide +kernel
theorem dX7_point_219 : decode cX7_point 219 = .ok (.iload_n 1, 1) := by decide +kernel
theorem dX7_point_220 : decode cX7_point 220 = .ok (.imul, 1) := by decide +kernel
theorem dX7_point_221 : decode cX7_point 221 = .ok (.iload 6, 2) := by decide +kernel
theorem dX7_point_223 : decode cX7_point 223 = .ok (.iadd, 1) := by decide +kernel
theorem dX7_point_224 : decode cX7_point 224 = .ok (.iaload, 1) := by decide +kernel
theorem dX7_point_225 : decode cX7_point 225 = .ok (.iload_n 2, 1) := by decide +kernel
theorem dX7_point_226 : decode cX7_point 226 = .ok (.if_icmp .ne 7, 3) := by decide +kernel
theorem dX7_point_229 : decode cX7_point 229 = .ok (.iconst 1, 1) := by decide +kernel
theorem dX7_point_230 : decode cX7_point 230 = .ok (.goto 4, 3) := by decide +kernel
theorem dX7_point_233 : decode cX7_point 233 = .ok (.iconst 0, 1) := by decide +kernel
theorem dX7_point_234 : decode cX7_point 234 = .ok (.iadd, 1) := by decide +kernel
theorem dX7_point_235 : decode cX7_point 235 = .ok (.istore 5, 2) := by decide +kernel
theorem dX7_point_237 : decode cX7_point 237 = .ok (.iinc 6 1, 3) := by decide +kernel
theorem dX7_point_240 : decode cX7_point 240 = .ok (.goto (-40), 3) := by decide +kernel
theorem dX7_point_243 : decode cX7_point 243 = .ok (.iload 5, 2) := by decide +kernel
theorem dX7_point_245 : decode cX7_point 245 = .ok (.ireturn, 1) := by decide +kernel
theorem dX7_point_246 : decode cX7_point 246 = .ok (.aload_n 0, 1) := by decide +kernel
theorem dX7_point_247 : decode cX7_point 247 = .ok (.iconst 2, 1) := by decide +kernel
theorem dX7_point_248 : decode cX7_point 248 = .ok (.putfield 91, 3) := by decide +kernel
theorem dX7_point_251 : decode cX7_point 251 = .ok (.iconst 0, 1) := by decide +kernel
theorem dX7_point_252 : decode cX7_point 252 = .ok (.ireturn, 1) := by decide +kernel
theorem dX7_isClosed_0 : decode cX7_isClosed 0 = .ok (.iconst 1, 1) := by decide +kernel
theorem dX7_isClosed_1 : decode cX7_isClosed 1 = .ok (.istore_n 2, 1) := by decide +kernel
theorem dX7_isClosed_2 : decode cX7_isClosed 2 = .ok (.iconst 0, 1) := by decide +kernel
theorem dX7_isClosed_3 : decode cX7_isClosed 3 = .ok (.istore_n 3, 1) := by decide +kernel
theorem dX7_isClosed_4 : decode cX7_isClosed 4 = .ok (.iload_n 3, 1) := by decide +kernel
theorem dX7_isClosed_5 : decode cX7_isClosed 5 = .ok (.aload_n 0, 1) := by decide +kernel
theorem dX7_isClosed_6 : decode cX7_isClosed 6 = .ok (.getfield 48, 3) := by decide +kernel
theorem dX7_isClosed_9 : decode cX7_isClosed 9 = .ok (.iload_n 1, 1) := by decide +kernel
theorem dX7_isClosed_10 : decode cX7_isClosed 10 = .ok (.iaload, 1) := by decide +kernel
theorem dX7_isClosed_11 : decode cX7_isClosed 11 = .ok (.if_icmp .ge 33, 3) := by decide +kernel
theorem dX7_isClosed_14 : decode cX7_isClosed 14 = .ok (.iload_n 2, 1) := by decide +kernel
theorem dX7_isClosed_15 : decode cX7_isClosed 15 = .ok (.ifCond .eq 21, 3) := by decide +kernel
theorem dX7_isClosed_18 : decode cX7_isClosed 18 = .ok (.aload_n 0, 1) := by decide +kernel
theorem dX7_isClosed_19 : decode cX7_isClosed 19 = .ok (.getfield 72, 3) := by decide +kernel
theorem dX7_isClosed_22 : decode cX7_isClosed 22 = .ok (.bipush 6, 2) := by decide +kernel
theorem dX7_isClosed_24 : decode cX7_isClosed 24 = .ok (.iload_n 1, 1) := by decide +kernel
theorem dX7_isClosed_25 : decode cX7_isClosed 25 = .ok (.imul, 1) := by decide +kernel
theorem dX7_isClosed_26 : decode cX7_isClosed 26 = .ok (.iload_n 3, 1) := by decide +kernel
theorem dX7_isClosed_27 : decode cX7_isClosed 27 = .ok (.iadd, 1) := by decide +kernel
theorem dX7_isClosed_28 : decode cX7_isClosed 28 = .ok (.iaload, 1) := by decide +kernel
theorem dX7_isClosed_29 : decode cX7_isClosed 29 = .ok (.ifCond .lt 7, 3) := by decide +kernel
theorem dX7_isClosed_32 : decode cX7_isClosed 32 = .ok (.iconst 1, 1) := by decide +kernel
theorem dX7_isClosed_33 : decode cX7_isClosed 33 = .ok (.goto 4, 3) := by decide +kernel
theorem dX7_isClosed_36 : decode cX7_isClosed 36 = .ok (.iconst 0, 1) := by decide +kernel
theorem dX7_isClosed_37 : decode cX7_isClosed 37 = .ok (.istore_n 2, 1) := by decide +kernel
theorem dX7_isClosed_38 : decode cX7_isClosed 38 = .ok (.iinc 3 1, 3) := by decide +kernel
theorem dX7_isClosed_41 : decode cX7_isClosed 41 = .ok (.goto (-37), 3) := by decide +kernel
theorem dX7_isClosed_44 : decode cX7_isClosed 44 = .ok (.iload_n 2, 1) := by decide +kernel
theorem dX7_isClosed_45 : decode cX7_isClosed 45 = .ok (.ireturn, 1) := by decide +kernel
theorem dX7_theAnswer_0 : decode cX7_theAnswer 0 = .ok (.iconst 0, 1) := by decide +kernel
theorem dX7_theAnswer_1 : decode cX7_theAnswer 1 = .ok (.istore_n 2, 1) := by decide +kernel
theorem dX7_theAnswer_2 : decode cX7_theAnswer 2 = .ok (.iconst 0, 1) := by decide +kernel
theorem dX7_theAnswer_3 : decode cX7_theAnswer 3 = .ok (.istore_n 3, 1) := by decide +kernel
theorem dX7_theAnswer_4 : decode cX7_theAnswer 4 = .ok (.iload_n 3, 1) := by decide +kernel
theorem dX7_theAnswer_5 : decode cX7_theAnswer 5 = .ok (.aload_n 0, 1) := by decide +kernel
theorem dX7_theAnswer_6 : decode cX7_theAnswer 6 = .ok (.getfield 48, 3) := by decide +kernel
theorem dX7_theAnswer_9 : decode cX7_theAnswer 9 = .ok (.iload_n 1, 1) := by decide +kernel
theorem dX7_theAnswer_10 : decode cX7_theAnswer 10 = .ok (.iaload, 1) := by decide +kernel
theorem dX7_theAnswer_11 : decode cX7_theAnswer 11 = .ok (.if_icmp .ge 41, 3) := by decide +kernel
theorem dX7_theAnswer_14 : decode cX7_theAnswer 14 = .ok (.aload_n 0, 1) := by decide +kernel
theorem dX7_theAnswer_15 : decode cX7_theAnswer 15 = .ok (.getfield 66, 3) := by decide +kernel
theorem dX7_theAnswer_18 : decode cX7_theAnswer 18 = .ok (.bipush 6, 2) := by decide +kernel
theorem dX7_theAnswer_20 : decode cX7_theAnswer 20 = .ok (.iload_n 1, 1) := by decide +kernel
theorem dX7_theAnswer_21 : decode cX7_theAnswer 21 = .ok (.imul, 1) := by decide +kernel
theorem dX7_theAnswer_22 : decode cX7_theAnswer 22 = .ok (.iload_n 3, 1) := by decide +kernel
theorem dX7_theAnswer_23 : decode cX7_theAnswer 23 = .ok (.iadd, 1) := by decide +kernel
theorem dX7_theAnswer_24 : decode cX7_theAnswer 24 = .ok (.iaload, 1) := by decide +kernel
theorem dX7_theAnswer_25 : decode cX7_theAnswer 25 = .ok (.ifCond .ge 5, 3) := by decide +kernel
theorem dX7_theAnswer_28 : decode cX7_theAnswer 28 = .ok (.iconst (-1), 1) := by decide +kernel
theorem dX7_theAnswer_29 : decode cX7_theAnswer 29 = .ok (.ireturn, 1) := by decide +kernel
theorem dX7_theAnswer_30 : decode cX7_theAnswer 30 = .ok (.iload_n 2, 1) := by decide +kernel
theorem dX7_theAnswer_31 : decode cX7_theAnswer 31 = .ok (.iconst 1, 1) := by decide +kernel
theorem dX7_theAnswer_32 : decode cX7_theAnswer 32 = .ok (.aload_n 0, 1) := by decide +kernel
theorem dX7_theAnswer_33 : decode cX7_theAnswer 33 = .ok (.getfield 66, 3) := by decide +kernel
theorem dX7_theAnswer_36 : decode cX7_theAnswer 36 = .ok (.bipush 6, 2) := by decide +kernel
theorem dX7_theAnswer_38 : decode cX7_theAnswer 38 = .ok (.iload_n 1, 1) := by decide +kernel
theorem dX7_theAnswer_39 : decode cX7_theAnswer 39 = .ok (.imul, 1) := by decide +kernel
theorem dX7_theAnswer_40 : decode cX7_theAnswer 40 = .ok (.iload_n 3, 1) := by decide +kernel
theorem dX7_theAnswer_41 : decode cX7_theAnswer 41 = .ok (.iadd, 1) := by decide +kernel
theorem dX7_theAnswer_42 : decode cX7_theAnswer 42 = .ok (.iaload, 1) := by decide +kernel
theorem dX7_theAnswer_43 : decode cX7_theAnswer 43 = .ok (.ishl, 1) := by decide +kernel
theorem dX7_theAnswer_44 : decode cX7_theAnswer 44 = .ok (.ior, 1) := by decide +kernel
theorem dX7_theAnswer_45 : decode cX7_theAnswer 45 = .ok (.istore_n 2, 1) := by decide +kernel
theorem dX7_theAnswer_46 : decode cX7_theAnswer 46 = .ok (.iinc 3 1, 3) := by decide +kernel
theorem dX7_theAnswer_49 : decode cX7_theAnswer 49 = .ok (.goto (-45), 3) := by decide +kernel
theorem dX7_theAnswer_52 : decode cX7_theAnswer 52 = .ok (.iconst (-1), 1) := by decide +kernel
theorem dX7_theAnswer_53 : decode cX7_theAnswer 53 = .ok (.istore_n 3, 1) := by decide +kernel
theorem dX7_theAnswer_54 : decode cX7_theAnswer 54 = .ok (.iconst 0, 1) := by decide +kernel
theorem dX7_theAnswer_55 : decode cX7_theAnswer 55 = .ok (.istore 4, 2) := by decide +kernel
theorem dX7_theAnswer_57 : decode cX7_theAnswer 57 = .ok (.iload 4, 2) := by decide +kernel
theorem dX7_theAnswer_59 : decode cX7_theAnswer 59 = .ok (.iconst 1, 1) := by decide +kernel
theorem dX7_theAnswer_60 : decode cX7_theAnswer 60 = .ok (.aload_n 0, 1) := by decide +kernel
theorem dX7_theAnswer_61 : decode cX7_theAnswer 61 = .ok (.getfield 217, 3) := by decide +kernel
theorem dX7_theAnswer_64 : decode cX7_theAnswer 64 = .ok (.ishl, 1) := by decide +kernel
theorem dX7_theAnswer_65 : decode cX7_theAnswer 65 = .ok (.if_icmp .ge 85, 3) := by decide +kernel
theorem dX7_theAnswer_68 : decode cX7_theAnswer 68 = .ok (.iconst 0, 1) := by decide +kernel
theorem dX7_theAnswer_69 : decode cX7_theAnswer 69 = .ok (.istore 5, 2) := by decide +kernel
theorem dX7_theAnswer_71 : decode cX7_theAnswer 71 = .ok (.iconst 0, 1) := by decide +kernel
theorem dX7_theAnswer_72 : decode cX7_theAnswer 72 = .ok (.istore 6, 2) := by decide +kernel
theorem dX7_theAnswer_74 : decode cX7_theAnswer 74 = .ok (.iload 6, 2) := by decide +kernel
theorem dX7_theAnswer_76 : decode cX7_theAnswer 76 = .ok (.aload_n 0, 1) := by decide +kernel
theorem dX7_theAnswer_77 : decode cX7_theAnswer 77 = .ok (.getfield 217, 3) := by decide +kernel
theorem dX7_theAnswer_80 : decode cX7_theAnswer 80 = .ok (.if_icmp .ge 36, 3) := by decide +kernel
theorem dX7_theAnswer_83 : decode cX7_theAnswer 83 = .ok (.iload 5, 2) := by decide +kernel
theorem dX7_theAnswer_85 : decode cX7_theAnswer 85 = .ok (.iload 4, 2) := by decide +kernel
theorem dX7_theAnswer_87 : decode cX7_theAnswer 87 = .ok (.iload 6, 2) := by decide +kernel
theorem dX7_theAnswer_89 : decode cX7_theAnswer 89 = .ok (.ishr, 1) := by decide +kernel
theorem dX7_theAnswer_90 : decode cX7_theAnswer 90 = .ok (.iconst 1, 1) := by decide +kernel
theorem dX7_theAnswer_91 : decode cX7_theAnswer 91 = .ok (.iand, 1) := by decide +kernel
theorem dX7_theAnswer_92 : decode cX7_theAnswer 92 = .ok (.iconst 1, 1) := by decide +kernel
theorem dX7_theAnswer_93 : decode cX7_theAnswer 93 = .ok (.if_icmp .ne 13, 3) := by decide +kernel
theorem dX7_theAnswer_96 : decode cX7_theAnswer 96 = .ok (.aload_n 0, 1) := by decide +kernel
theorem dX7_theAnswer_97 : decode cX7_theAnswer 97 = .ok (.getfield 75, 3) := by decide +kernel
theorem dX7_theAnswer_100 : decode cX7_theAnswer 100 = .ok (.iload 6, 2) := by decide +kernel
theorem dX7_theAnswer_102 : decode cX7_theAnswer 102 = .ok (.iaload, 1) := by decide +kernel
theorem dX7_theAnswer_103 : decode cX7_theAnswer 103 = .ok (.goto 4, 3) := by decide +kernel
theorem dX7_theAnswer_106 : decode cX7_theAnswer 106 = .ok (.iconst 0, 1) := by decide +kernel
theorem dX7_theAnswer_107 : decode cX7_theAnswer 107 = .ok (.ior, 1) := by decide +kernel
theorem dX7_theAnswer_108 : decode cX7_theAnswer 108 = .ok (.istore 5, 2) := by decide +kernel
theorem dX7_theAnswer_110 : decode cX7_theAnswer 110 = .ok (.iinc 6 1, 3) := by decide +kernel
theorem dX7_theAnswer_113 : decode cX7_theAnswer 113 = .ok (.goto (-39), 3) := by decide +kernel
theorem dX7_theAnswer_116 : decode cX7_theAnswer 116 = .ok (.iload_n 2, 1) := by decide +kernel
theorem dX7_theAnswer_117 : decode cX7_theAnswer 117 = .ok (.iload 5, 2) := by decide +kernel
theorem dX7_theAnswer_119 : decode cX7_theAnswer 119 = .ok (.iconst (-1), 1) := by decide +kernel
theorem dX7_theAnswer_120 : decode cX7_theAnswer 120 = .ok (.ixor, 1) := by decide +kernel
theorem dX7_theAnswer_121 : decode cX7_theAnswer 121 = .ok (.iand, 1) := by decide +kernel
theorem dX7_theAnswer_122 : decode cX7_theAnswer 122 = .ok (.ifCond .ne 22, 3) := by decide +kernel
theorem dX7_theAnswer_125 : decode cX7_theAnswer 125 = .ok (.iload_n 3, 1) := by decide +kernel
theorem dX7_theAnswer_126 : decode cX7_theAnswer 126 = .ok (.ifCond .lt 15, 3) := by decide +kernel
theorem dX7_theAnswer_129 : decode cX7_theAnswer 129 = .ok (.iload 4, 2) := by decide +kernel
theorem dX7_theAnswer_131 : decode cX7_theAnswer 131 = .ok (.invokestatic 220, 3) := by decide +kernel
theorem dX7_theAnswer_134 : decode cX7_theAnswer 134 = .ok (.iload_n 3, 1) := by decide +kernel
theorem dX7_theAnswer_135 : decode cX7_theAnswer 135 = .ok (.invokestatic 220, 3) := by decide +kernel
theorem dX7_theAnswer_138 : decode cX7_theAnswer 138 = .ok (.if_icmp .ge 6, 3) := by decide +kernel
theorem dX7_theAnswer_141 : decode cX7_theAnswer 141 = .ok (.iload 4, 2) := by decide +kernel
theorem dX7_theAnswer_143 : decode cX7_theAnswer 143 = .ok (.istore_n 3, 1) := by decide +kernel
theorem dX7_theAnswer_144 : decode cX7_theAnswer 144 = .ok (.iinc 4 1, 3) := by decide +kernel
theorem dX7_theAnswer_147 : decode cX7_theAnswer 147 = .ok (.goto (-90), 3) := by decide +kernel
theorem dX7_theAnswer_150 : decode cX7_theAnswer 150 = .ok (.iload_n 3, 1) := by decide +kernel
theorem dX7_theAnswer_151 : decode cX7_theAnswer 151 = .ok (.ireturn, 1) := by decide +kernel
theorem dX7_look_0 : decode cX7_look 0 = .ok (.aload_n 0, 1) := by decide +kernel
theorem dX7_look_1 : decode cX7_look 1 = .ok (.iconst 0, 1) := by decide +kernel
theorem dX7_look_2 : decode cX7_look 2 = .ok (.putfield 91, 3) := by decide +kernel
theorem dX7_look_5 : decode cX7_look 5 = .ok (.aload_n 0, 1) := by decide +kernel
theorem dX7_look_6 : decode cX7_look 6 = .ok (.aload_n 0, 1) := by decide +kernel
theorem dX7_look_7 : decode cX7_look 7 = .ok (.iload_n 1, 1) := by decide +kernel
theorem dX7_look_8 : decode cX7_look 8 = .ok (.invokevirtual 104, 3) := by decide +kernel
theorem dX7_look_11 : decode cX7_look 11 = .ok (.iconst 1, 1) := by decide +kernel
theorem dX7_look_12 : decode cX7_look 12 = .ok (.invokevirtual 179, 3) := by decide +kernel
theorem dX7_look_15 : decode cX7_look 15 = .ok (.ifCond .eq 5, 3) := by decide +kernel
theorem dX7_look_18 : decode cX7_look 18 = .ok (.iconst 0, 1) := by decide +kernel
theorem dX7_look_19 : decode cX7_look 19 = .ok (.ireturn, 1) := by decide +kernel
theorem dX7_look_20 : decode cX7_look 20 = .ok (.iload_n 2, 1) := by decide +kernel
theorem dX7_look_21 : decode cX7_look 21 = .ok (.tableswitch 76 0 4 #[35, 42, 49, 56, 70], 35) := by decide +kernel
theorem dX7_look_56 : decode cX7_look 56 = .ok (.aload_n 0, 1) := by decide +kernel
theorem dX7_look_57 : decode cX7_look 57 = .ok (.getfield 42, 3) := by decide +kernel
theorem dX7_look_60 : decode cX7_look 60 = .ok (.iload_n 1, 1) := by decide +kernel
theorem dX7_look_61 : decode cX7_look 61 = .ok (.iaload, 1) := by decide +kernel
theorem dX7_look_62 : decode cX7_look 62 = .ok (.ireturn, 1) := by decide +kernel
theorem dX7_look_63 : decode cX7_look 63 = .ok (.aload_n 0, 1) := by decide +kernel
theorem dX7_look_64 : decode cX7_look 64 = .ok (.getfield 45, 3) := by decide +kernel
theorem dX7_look_67 : decode cX7_look 67 = .ok (.iload_n 1, 1) := by decide +kernel
theorem dX7_look_68 : decode cX7_look 68 = .ok (.iaload, 1) := by decide +kernel
theorem dX7_look_69 : decode cX7_look 69 = .ok (.ireturn, 1) := by decide +kernel
theorem dX7_look_70 : decode cX7_look 70 = .ok (.aload_n 0, 1) := by decide +kernel
theorem dX7_look_71 : decode cX7_look 71 = .ok (.getfield 48, 3) := by decide +kernel
theorem dX7_look_74 : decode cX7_look 74 = .ok (.iload_n 1, 1) := by decide +kernel
theorem dX7_look_75 : decode cX7_look 75 = .ok (.iaload, 1) := by decide +kernel
theorem dX7_look_76 : decode cX7_look 76 = .ok (.ireturn, 1) := by decide +kernel
theorem dX7_look_77 : decode cX7_look 77 = .ok (.aload_n 0, 1) := by decide +kernel
theorem dX7_look_78 : decode cX7_look 78 = .ok (.iload_n 1, 1) := by decide +kernel
theorem dX7_look_79 : decode cX7_look 79 = .ok (.invokevirtual 225, 3) := by decide +kernel
theorem dX7_look_82 : decode cX7_look 82 = .ok (.ifCond .eq 7, 3) := by decide +kernel
theorem dX7_look_85 : decode cX7_look 85 = .ok (.iconst 1, 1) := by decide +kernel
theorem dX7_look_86 : decode cX7_look 86 = .ok (.goto 4, 3) := by decide +kernel
theorem dX7_look_89 : decode cX7_look 89 = .ok (.iconst 0, 1) := by decide +kernel
theorem dX7_look_90 : decode cX7_look 90 = .ok (.ireturn, 1) := by decide +kernel
theorem dX7_look_91 : decode cX7_look 91 = .ok (.aload_n 0, 1) := by decide +kernel
theorem dX7_look_92 : decode cX7_look 92 = .ok (.iload_n 1, 1) := by decide +kernel
theorem dX7_look_93 : decode cX7_look 93 = .ok (.invokevirtual 228, 3) := by decide +kernel
theorem dX7_look_96 : decode cX7_look 96 = .ok (.ireturn, 1) := by decide +kernel
theorem dX7_look_97 : decode cX7_look 97 = .ok (.aload_n 0, 1) := by decide +kernel
theorem dX7_look_98 : decode cX7_look 98 = .ok (.iconst 2, 1) := by decide +kernel
theorem dX7_look_99 : decode cX7_look 99 = .ok (.putfield 91, 3) := by decide +kernel
theorem dX7_look_102 : decode cX7_look 102 = .ok (.iconst 0, 1) := by decide +kernel
theorem dX7_look_103 : decode cX7_look 103 = .ok (.ireturn, 1) := by decide +kernel
theorem dX7_template_0 : decode cX7_template 0 = .ok (.aload_n 0, 1) := by decide +kernel
theorem dX7_template_1 : decode cX7_template 1 = .ok (.iconst 0, 1) := by decide +kernel
theorem dX7_template_2 : decode cX7_template 2 = .ok (.putfield 91, 3) := by decide +kernel
theorem dX7_template_5 : decode cX7_template 5 = .ok (.aload_n 0, 1) := by decide +kernel
theorem dX7_template_6 : decode cX7_template 6 = .ok (.iload_n 1, 1) := by decide +kernel
theorem dX7_template_7 : decode cX7_template 7 = .ok (.ifCond .le 13, 3) := by decide +kernel
theorem dX7_template_10 : decode cX7_template 10 = .ok (.iload_n 1, 1) := by decide +kernel
theorem dX7_template_11 : decode cX7_template 11 = .ok (.iconst 1, 1) := by decide +kernel
theorem dX7_template_12 : decode cX7_template 12 = .ok (.aload_n 0, 1) := by decide +kernel
theorem dX7_template_13 : decode cX7_template 13 = .ok (.getfield 94, 3) := by decide +kernel
theorem dX7_template_16 : decode cX7_template 16 = .ok (.ishl, 1) := by decide +kernel
theorem dX7_template_17 : decode cX7_template 17 = .ok (.if_icmp .lt 7, 3) := by decide +kernel
theorem dX7_template_20 : decode cX7_template 20 = .ok (.iconst 1, 1) := by decide +kernel
theorem dX7_template_21 : decode cX7_template 21 = .ok (.goto 4, 3) := by decide +kernel
theorem dX7_template_24 : decode cX7_template 24 = .ok (.iconst 0, 1) := by decide +kernel
theorem dX7_template_25 : decode cX7_template 25 = .ok (.iconst 1, 1) := by decide +kernel
theorem dX7_template_26 : decode cX7_template 26 = .ok (.invokevirtual 179, 3) := by decide +kernel
theorem dX7_template_29 : decode cX7_template 29 = .ok (.ifCond .eq 5, 3) := by decide +kernel
theorem dX7_template_32 : decode cX7_template 32 = .ok (.iconst 0, 1) := by decide +kernel
theorem dX7_template_33 : decode cX7_template 33 = .ok (.ireturn, 1) := by decide +kernel
theorem dX7_template_34 : decode cX7_template 34 = .ok (.aload_n 0, 1) := by decide +kernel
theorem dX7_template_35 : decode cX7_template 35 = .ok (.getfield 217, 3) := by decide +kernel
theorem dX7_template_38 : decode cX7_template 38 = .ok (.bipush 10, 2) := by decide +kernel
theorem dX7_template_40 : decode cX7_template 40 = .ok (.if_icmp .ne 5, 3) := by decide +kernel
theorem dX7_template_43 : decode cX7_template 43 = .ok (.iconst (-1), 1) := by decide +kernel
theorem dX7_template_44 : decode cX7_template 44 = .ok (.ireturn, 1) := by decide +kernel
theorem dX7_template_45 : decode cX7_template 45 = .ok (.aload_n 0, 1) := by decide +kernel
theorem dX7_template_46 : decode cX7_template 46 = .ok (.getfield 75, 3) := by decide +kernel
theorem dX7_template_49 : decode cX7_template 49 = .ok (.aload_n 0, 1) := by decide +kernel
theorem dX7_template_50 : decode cX7_template 50 = .ok (.getfield 217, 3) := by decide +kernel
theorem dX7_template_53 : decode cX7_template 53 = .ok (.iload_n 1, 1) := by decide +kernel
theorem dX7_template_54 : decode cX7_template 54 = .ok (.iastore, 1) := by decide +kernel
theorem dX7_template_55 : decode cX7_template 55 = .ok (.aload_n 0, 1) := by decide +kernel
theorem dX7_template_56 : decode cX7_template 56 = .ok (.dup, 1) := by decide +kernel
theorem dX7_template_57 : decode cX7_template 57 = .ok (.getfield 217, 3) := by decide +kernel
theorem dX7_template_60 : decode cX7_template 60 = .ok (.iconst 1, 1) := by decide +kernel
theorem dX7_template_61 : decode cX7_template 61 = .ok (.iadd, 1) := by decide +kernel
theorem dX7_template_62 : decode cX7_template 62 = .ok (.putfield 217, 3) := by decide +kernel
theorem dX7_template_65 : decode cX7_template 65 = .ok (.aload_n 0, 1) := by decide +kernel
theorem dX7_template_66 : decode cX7_template 66 = .ok (.getfield 217, 3) := by decide +kernel
theorem dX7_template_69 : decode cX7_template 69 = .ok (.iconst 1, 1) := by decide +kernel
theorem dX7_template_70 : decode cX7_template 70 = .ok (.isub, 1) := by decide +kernel
theorem dX7_template_71 : decode cX7_template 71 = .ok (.ireturn, 1) := by decide +kernel
theorem dX7_isUnder_0 : decode cX7_isUnder 0 = .ok (.iload_n 1, 1) := by decide +kernel
theorem dX7_isUnder_1 : decode cX7_isUnder 1 = .ok (.istore_n 3, 1) := by decide +kernel
theorem dX7_isUnder_2 : decode cX7_isUnder 2 = .ok (.iload_n 3, 1) := by decide +kernel
theorem dX7_isUnder_3 : decode cX7_isUnder 3 = .ok (.ifCond .lt 18, 3) := by decide +kernel
theorem dX7_isUnder_6 : decode cX7_isUnder 6 = .ok (.iload_n 3, 1) := by decide +kernel
theorem dX7_isUnder_7 : decode cX7_isUnder 7 = .ok (.iload_n 2, 1) := by decide +kernel
theorem dX7_isUnder_8 : decode cX7_isUnder 8 = .ok (.if_icmp .eq 13, 3) := by decide +kernel
theorem dX7_isUnder_11 : decode cX7_isUnder 11 = .ok (.aload_n 0, 1) := by decide +kernel
theorem dX7_isUnder_12 : decode cX7_isUnder 12 = .ok (.getfield 9, 3) := by decide +kernel
theorem dX7_isUnder_15 : decode cX7_isUnder 15 = .ok (.iload_n 3, 1) := by decide +kernel
theorem dX7_isUnder_16 : decode cX7_isUnder 16 = .ok (.iaload, 1) := by decide +kernel
theorem dX7_isUnder_17 : decode cX7_isUnder 17 = .ok (.istore_n 3, 1) := by decide +kernel
theorem dX7_isUnder_18 : decode cX7_isUnder 18 = .ok (.goto (-16), 3) := by decide +kernel
theorem dX7_isUnder_21 : decode cX7_isUnder 21 = .ok (.iload_n 3, 1) := by decide +kernel
theorem dX7_isUnder_22 : decode cX7_isUnder 22 = .ok (.ifCond .lt 7, 3) := by decide +kernel
theorem dX7_isUnder_25 : decode cX7_isUnder 25 = .ok (.iconst 1, 1) := by decide +kernel
theorem dX7_isUnder_26 : decode cX7_isUnder 26 = .ok (.goto 4, 3) := by decide +kernel
theorem dX7_isUnder_29 : decode cX7_isUnder 29 = .ok (.iconst 0, 1) := by decide +kernel
theorem dX7_isUnder_30 : decode cX7_isUnder 30 = .ok (.ireturn, 1) := by decide +kernel
theorem dX7_counted_0 : decode cX7_counted 0 = .ok (.iconst 0, 1) := by decide +kernel
theorem dX7_counted_1 : decode cX7_counted 1 = .ok (.istore_n 2, 1) := by decide +kernel
theorem dX7_counted_2 : decode cX7_counted 2 = .ok (.iload_n 2, 1) := by decide +kernel
theorem dX7_counted_3 : decode cX7_counted 3 = .ok (.sipush 400, 3) := by decide +kernel
theorem dX7_counted_6 : decode cX7_counted 6 = .ok (.if_icmp .gt 16, 3) := by decide +kernel
theorem dX7_counted_9 : decode cX7_counted 9 = .ok (.aload_n 0, 1) := by decide +kernel
theorem dX7_counted_10 : decode cX7_counted 10 = .ok (.getfield 88, 3) := by decide +kernel
theorem dX7_counted_13 : decode cX7_counted 13 = .ok (.iload_n 2, 1) := by decide +kernel
theorem dX7_counted_14 : decode cX7_counted 14 = .ok (.iconst 0, 1) := by decide +kernel
theorem dX7_counted_15 : decode cX7_counted 15 = .ok (.iastore, 1) := by decide +kernel
theorem dX7_counted_16 : decode cX7_counted 16 = .ok (.iinc 2 1, 3) := by decide +kernel
theorem dX7_counted_19 : decode cX7_counted 19 = .ok (.goto (-17), 3) := by decide +kernel
theorem dX7_counted_22 : decode cX7_counted 22 = .ok (.iconst 0, 1) := by decide +kernel
theorem dX7_counted_23 : decode cX7_counted 23 = .ok (.istore_n 2, 1) := by decide +kernel
theorem dX7_counted_24 : decode cX7_counted 24 = .ok (.iload_n 2, 1) := by decide +kernel
theorem dX7_counted_25 : decode cX7_counted 25 = .ok (.aload_n 0, 1) := by decide +kernel
theorem dX7_counted_26 : decode cX7_counted 26 = .ok (.getfield 101, 3) := by decide +kernel
theorem dX7_counted_29 : decode cX7_counted 29 = .ok (.if_icmp .ge 65, 3) := by decide +kernel
theorem dX7_counted_32 : decode cX7_counted 32 = .ok (.iconst 0, 1) := by decide +kernel
theorem dX7_counted_33 : decode cX7_counted 33 = .ok (.istore_n 3, 1) := by decide +kernel
theorem dX7_counted_34 : decode cX7_counted 34 = .ok (.iload_n 3, 1) := by decide +kernel
theorem dX7_counted_35 : decode cX7_counted 35 = .ok (.aload_n 0, 1) := by decide +kernel
theorem dX7_counted_36 : decode cX7_counted 36 = .ok (.getfield 48, 3) := by decide +kernel
theorem dX7_counted_39 : decode cX7_counted 39 = .ok (.iload_n 2, 1) := by decide +kernel
theorem dX7_counted_40 : decode cX7_counted 40 = .ok (.iaload, 1) := by decide +kernel
theorem dX7_counted_41 : decode cX7_counted 41 = .ok (.if_icmp .ge 47, 3) := by decide +kernel
theorem dX7_counted_44 : decode cX7_counted 44 = .ok (.aload_n 0, 1) := by decide +kernel
theorem dX7_counted_45 : decode cX7_counted 45 = .ok (.getfield 88, 3) := by decide +kernel
theorem dX7_counted_48 : decode cX7_counted 48 = .ok (.aload_n 0, 1) := by decide +kernel
theorem dX7_counted_49 : decode cX7_counted 49 = .ok (.getfield 45, 3) := by decide +kernel
theorem dX7_counted_52 : decode cX7_counted 52 = .ok (.iload_n 2, 1) := by decide +kernel
theorem dX7_counted_53 : decode cX7_counted 53 = .ok (.iaload, 1) := by decide +kernel
theorem dX7_counted_54 : decode cX7_counted 54 = .ok (.dup2, 1) := by decide +kernel
theorem dX7_counted_55 : decode cX7_counted 55 = .ok (.iaload, 1) := by decide +kernel
theorem dX7_counted_56 : decode cX7_counted 56 = .ok (.aload_n 0, 1) := by decide +kernel
theorem dX7_counted_57 : decode cX7_counted 57 = .ok (.aload_n 0, 1) := by decide +kernel
theorem dX7_counted_58 : decode cX7_counted 58 = .ok (.getfield 66, 3) := by decide +kernel
theorem dX7_counted_61 : decode cX7_counted 61 = .ok (.bipush 6, 2) := by decide +kernel
theorem dX7_counted_63 : decode cX7_counted 63 = .ok (.iload_n 2, 1) := by decide +kernel
theorem dX7_counted_64 : decode cX7_counted 64 = .ok (.imul, 1) := by decide +kernel
theorem dX7_counted_65 : decode cX7_counted 65 = .ok (.iload_n 3, 1) := by decide +kernel
theorem dX7_counted_66 : decode cX7_counted 66 = .ok (.iadd, 1) := by decide +kernel
theorem dX7_counted_67 : decode cX7_counted 67 = .ok (.iaload, 1) := by decide +kernel
theorem dX7_counted_68 : decode cX7_counted 68 = .ok (.iload_n 1, 1) := by decide +kernel
theorem dX7_counted_69 : decode cX7_counted 69 = .ok (.invokevirtual 231, 3) := by decide +kernel
theorem dX7_counted_72 : decode cX7_counted 72 = .ok (.ifCond .eq 7, 3) := by decide +kernel
theorem dX7_counted_75 : decode cX7_counted 75 = .ok (.iconst 1, 1) := by decide +kernel
theorem dX7_counted_76 : decode cX7_counted 76 = .ok (.goto 4, 3) := by decide +kernel
theorem dX7_counted_79 : decode cX7_counted 79 = .ok (.iconst 0, 1) := by decide +kernel
theorem dX7_counted_80 : decode cX7_counted 80 = .ok (.iadd, 1) := by decide +kernel
theorem dX7_counted_81 : decode cX7_counted 81 = .ok (.iastore, 1) := by decide +kernel
theorem dX7_counted_82 : decode cX7_counted 82 = .ok (.iinc 3 1, 3) := by decide +kernel
theorem dX7_counted_85 : decode cX7_counted 85 = .ok (.goto (-51), 3) := by decide +kernel
theorem dX7_counted_88 : decode cX7_counted 88 = .ok (.iinc 2 1, 3) := by decide +kernel
theorem dX7_counted_91 : decode cX7_counted 91 = .ok (.goto (-67), 3) := by decide +kernel
theorem dX7_counted_94 : decode cX7_counted 94 = .ok (.return_, 1) := by decide +kernel
theorem dX7_counts_0 : decode cX7_counts 0 = .ok (.aload_n 0, 1) := by decide +kernel
theorem dX7_counts_1 : decode cX7_counts 1 = .ok (.iconst 0, 1) := by decide +kernel
theorem dX7_counts_2 : decode cX7_counts 2 = .ok (.putfield 91, 3) := by decide +kernel
theorem dX7_counts_5 : decode cX7_counts 5 = .ok (.aload_n 0, 1) := by decide +kernel
theorem dX7_counts_6 : decode cX7_counts 6 = .ok (.aload_n 0, 1) := by decide +kernel
theorem dX7_counts_7 : decode cX7_counts 7 = .ok (.iload_n 1, 1) := by decide +kernel
theorem dX7_counts_8 : decode cX7_counts 8 = .ok (.invokevirtual 173, 3) := by decide +kernel
theorem dX7_counts_11 : decode cX7_counts 11 = .ok (.iconst 1, 1) := by decide +kernel
theorem dX7_counts_12 : decode cX7_counts 12 = .ok (.invokevirtual 179, 3) := by decide +kernel
theorem dX7_counts_15 : decode cX7_counts 15 = .ok (.ifCond .ne 15, 3) := by decide +kernel
theorem dX7_counts_18 : decode cX7_counts 18 = .ok (.iload_n 2, 1) := by decide +kernel
theorem dX7_counts_19 : decode cX7_counts 19 = .ok (.iconst 0, 1) := by decide +kernel
theorem dX7_counts_20 : decode cX7_counts 20 = .ok (.aload_n 0, 1) := by decide +kernel
theorem dX7_counts_21 : decode cX7_counts 21 = .ok (.getfield 201, 3) := by decide +kernel
theorem dX7_counts_24 : decode cX7_counts 24 = .ok (.invokestatic 97, 3) := by decide +kernel
theorem dX7_counts_27 : decode cX7_counts 27 = .ok (.ifCond .ne 5, 3) := by decide +kernel
theorem dX7_counts_30 : decode cX7_counts 30 = .ok (.iconst 0, 1) := by decide +kernel
theorem dX7_counts_31 : decode cX7_counts 31 = .ok (.ireturn, 1) := by decide +kernel
theorem dX7_counts_32 : decode cX7_counts 32 = .ok (.aload_n 0, 1) := by decide +kernel
theorem dX7_counts_33 : decode cX7_counts 33 = .ok (.iload_n 1, 1) := by decide +kernel
theorem dX7_counts_34 : decode cX7_counts 34 = .ok (.invokevirtual 234, 3) := by decide +kernel
theorem dX7_counts_37 : decode cX7_counts 37 = .ok (.aload_n 0, 1) := by decide +kernel
theorem dX7_counts_38 : decode cX7_counts 38 = .ok (.getfield 88, 3) := by decide +kernel
theorem dX7_counts_41 : decode cX7_counts 41 = .ok (.iload_n 2, 1) := by decide +kernel
theorem dX7_counts_42 : decode cX7_counts 42 = .ok (.iaload, 1) := by decide +kernel
theorem dX7_counts_43 : decode cX7_counts 43 = .ok (.ireturn, 1) := by decide +kernel
theorem dX7_wave_0 : decode cX7_wave 0 = .ok (.aload_n 0, 1) := by decide +kernel
theorem dX7_wave_1 : decode cX7_wave 1 = .ok (.iconst 0, 1) := by decide +kernel
theorem dX7_wave_2 : decode cX7_wave 2 = .ok (.putfield 91, 3) := by decide +kernel
theorem dX7_wave_5 : decode cX7_wave 5 = .ok (.aload_n 0, 1) := by decide +kernel
theorem dX7_wave_6 : decode cX7_wave 6 = .ok (.aload_n 0, 1) := by decide +kernel
theorem dX7_wave_7 : decode cX7_wave 7 = .ok (.iload_n 1, 1) := by decide +kernel
theorem dX7_wave_8 : decode cX7_wave 8 = .ok (.invokevirtual 173, 3) := by decide +kernel
theorem dX7_wave_11 : decode cX7_wave 11 = .ok (.iconst 1, 1) := by decide +kernel
theorem dX7_wave_12 : decode cX7_wave 12 = .ok (.invokevirtual 179, 3) := by decide +kernel
theorem dX7_wave_15 : decode cX7_wave 15 = .ok (.ifCond .eq 5, 3) := by decide +kernel
theorem dX7_wave_18 : decode cX7_wave 18 = .ok (.iconst 0, 1) := by decide +kernel
theorem dX7_wave_19 : decode cX7_wave 19 = .ok (.ireturn, 1) := by decide +kernel
theorem dX7_wave_20 : decode cX7_wave 20 = .ok (.aload_n 0, 1) := by decide +kernel
theorem dX7_wave_21 : decode cX7_wave 21 = .ok (.iload_n 1, 1) := by decide +kernel
theorem dX7_wave_22 : decode cX7_wave 22 = .ok (.invokevirtual 234, 3) := by decide +kernel
theorem dX7_wave_25 : decode cX7_wave 25 = .ok (.iconst 0, 1) := by decide +kernel
theorem dX7_wave_26 : decode cX7_wave 26 = .ok (.istore_n 2, 1) := by decide +kernel
theorem dX7_wave_27 : decode cX7_wave 27 = .ok (.iload_n 2, 1) := by decide +kernel
theorem dX7_wave_28 : decode cX7_wave 28 = .ok (.aload_n 0, 1) := by decide +kernel
theorem dX7_wave_29 : decode cX7_wave 29 = .ok (.getfield 201, 3) := by decide +kernel
theorem dX7_wave_32 : decode cX7_wave 32 = .ok (.if_icmp .gt 74, 3) := by decide +kernel
theorem dX7_wave_35 : decode cX7_wave 35 = .ok (.iconst 0, 1) := by decide +kernel
theorem dX7_wave_36 : decode cX7_wave 36 = .ok (.istore_n 3, 1) := by decide +kernel
theorem dX7_wave_37 : decode cX7_wave 37 = .ok (.iconst 0, 1) := by decide +kernel
theorem dX7_wave_38 : decode cX7_wave 38 = .ok (.istore 4, 2) := by decide +kernel
theorem dX7_wave_40 : decode cX7_wave 40 = .ok (.iload 4, 2) := by decide +kernel
theorem dX7_wave_42 : decode cX7_wave 42 = .ok (.iload_n 2, 1) := by decide +kernel
theorem dX7_wave_43 : decode cX7_wave 43 = .ok (.if_icmp .ge 33, 3) := by decide +kernel
theorem dX7_wave_46 : decode cX7_wave 46 = .ok (.iload_n 3, 1) := by decide +kernel
theorem dX7_wave_47 : decode cX7_wave 47 = .ok (.aload_n 0, 1) := by decide +kernel
theorem dX7_wave_48 : decode cX7_wave 48 = .ok (.getfield 88, 3) := by decide +kernel
theorem dX7_wave_51 : decode cX7_wave 51 = .ok (.iload 4, 2) := by decide +kernel
theorem dX7_wave_53 : decode cX7_wave 53 = .ok (.iaload, 1) := by decide +kernel
theorem dX7_wave_54 : decode cX7_wave 54 = .ok (.aload_n 0, 1) := by decide +kernel
theorem dX7_wave_55 : decode cX7_wave 55 = .ok (.getfield 88, 3) := by decide +kernel
theorem dX7_wave_58 : decode cX7_wave 58 = .ok (.iload_n 2, 1) := by decide +kernel
theorem dX7_wave_59 : decode cX7_wave 59 = .ok (.iaload, 1) := by decide +kernel
theorem dX7_wave_60 : decode cX7_wave 60 = .ok (.if_icmp .lt 7, 3) := by decide +kernel
theorem dX7_wave_63 : decode cX7_wave 63 = .ok (.iconst 1, 1) := by decide +kernel
theorem dX7_wave_64 : decode cX7_wave 64 = .ok (.goto 4, 3) := by decide +kernel
theorem dX7_wave_67 : decode cX7_wave 67 = .ok (.iconst 0, 1) := by decide +kernel
theorem dX7_wave_68 : decode cX7_wave 68 = .ok (.iadd, 1) := by decide +kernel
theorem dX7_wave_69 : decode cX7_wave 69 = .ok (.istore_n 3, 1) := by decide +kernel
theorem dX7_wave_70 : decode cX7_wave 70 = .ok (.iinc 4 1, 3) := by decide +kernel
theorem dX7_wave_73 : decode cX7_wave 73 = .ok (.goto (-33), 3) := by decide +kernel
theorem dX7_wave_76 : decode cX7_wave 76 = .ok (.aload_n 0, 1) := by decide +kernel
theorem dX7_wave_77 : decode cX7_wave 77 = .ok (.getfield 88, 3) := by decide +kernel
theorem dX7_wave_80 : decode cX7_wave 80 = .ok (.iload_n 2, 1) := by decide +kernel
theorem dX7_wave_81 : decode cX7_wave 81 = .ok (.iaload, 1) := by decide +kernel
theorem dX7_wave_82 : decode cX7_wave 82 = .ok (.iconst 2, 1) := by decide +kernel
theorem dX7_wave_83 : decode cX7_wave 83 = .ok (.if_icmp .lt 17, 3) := by decide +kernel
theorem dX7_wave_86 : decode cX7_wave 86 = .ok (.bipush 20, 2) := by decide +kernel
theorem dX7_wave_88 : decode cX7_wave 88 = .ok (.iload_n 3, 1) := by decide +kernel
theorem dX7_wave_89 : decode cX7_wave 89 = .ok (.iconst 1, 1) := by decide +kernel
theorem dX7_wave_90 : decode cX7_wave 90 = .ok (.iadd, 1) := by decide +kernel
theorem dX7_wave_91 : decode cX7_wave 91 = .ok (.imul, 1) := by decide +kernel
theorem dX7_wave_92 : decode cX7_wave 92 = .ok (.iload_n 2, 1) := by decide +kernel
theorem dX7_wave_93 : decode cX7_wave 93 = .ok (.iconst 1, 1) := by decide +kernel
theorem dX7_wave_94 : decode cX7_wave 94 = .ok (.iadd, 1) := by decide +kernel
theorem dX7_wave_95 : decode cX7_wave 95 = .ok (.if_icmp .gt 5, 3) := by decide +kernel
theorem dX7_wave_98 : decode cX7_wave 98 = .ok (.iload_n 2, 1) := by decide +kernel
theorem dX7_wave_99 : decode cX7_wave 99 = .ok (.ireturn, 1) := by decide +kernel
theorem dX7_wave_100 : decode cX7_wave 100 = .ok (.iinc 2 1, 3) := by decide +kernel
theorem dX7_wave_103 : decode cX7_wave 103 = .ok (.goto (-76), 3) := by decide +kernel
theorem dX7_wave_106 : decode cX7_wave 106 = .ok (.iconst (-1), 1) := by decide +kernel
theorem dX7_wave_107 : decode cX7_wave 107 = .ok (.ireturn, 1) := by decide +kernel
theorem dX7_count_0 : decode cX7_count 0 = .ok (.aload_n 0, 1) := by decide +kernel
theorem dX7_count_1 : decode cX7_count 1 = .ok (.iconst 0, 1) := by decide +kernel
theorem dX7_count_2 : decode cX7_count 2 = .ok (.putfield 91, 3) := by decide +kernel
theorem dX7_count_5 : decode cX7_count 5 = .ok (.iconst 0, 1) := by decide +kernel
theorem dX7_count_6 : decode cX7_count 6 = .ok (.istore_n 2, 1) := by decide +kernel
theorem dX7_count_7 : decode cX7_count 7 = .ok (.iload_n 1, 1) := by decide +kernel
theorem dX7_count_8 : decode cX7_count 8 = .ok (.tableswitch 274 0 8 #[52, 57, 62, 67, 101, 128, 128, 128, 269], 52) := by decide +kernel
theorem dX7_count_60 : decode cX7_count 60 = .ok (.aload_n 0, 1) := by decide +kernel
theorem dX7_count_61 : decode cX7_count 61 = .ok (.getfield 201, 3) := by decide +kernel
theorem dX7_count_64 : decode cX7_count 64 = .ok (.ireturn, 1) := by decide +kernel
theorem dX7_count_65 : decode cX7_count 65 = .ok (.aload_n 0, 1) := by decide +kernel
theorem dX7_count_66 : decode cX7_count 66 = .ok (.getfield 94, 3) := by decide +kernel
theorem dX7_count_69 : decode cX7_count 69 = .ok (.ireturn, 1) := by decide +kernel
theorem dX7_count_70 : decode cX7_count 70 = .ok (.aload_n 0, 1) := by decide +kernel
theorem dX7_count_71 : decode cX7_count 71 = .ok (.getfield 101, 3) := by decide +kernel
theorem dX7_count_74 : decode cX7_count 74 = .ok (.ireturn, 1) := by decide +kernel
theorem dX7_count_75 : decode cX7_count 75 = .ok (.iconst 0, 1) := by decide +kernel
theorem dX7_count_76 : decode cX7_count 76 = .ok (.istore_n 3, 1) := by decide +kernel
theorem dX7_count_77 : decode cX7_count 77 = .ok (.iload_n 3, 1) := by decide +kernel
theorem dX7_count_78 : decode cX7_count 78 = .ok (.aload_n 0, 1) := by decide +kernel
theorem dX7_count_79 : decode cX7_count 79 = .ok (.getfield 101, 3) := by decide +kernel
theorem dX7_count_82 : decode cX7_count 82 = .ok (.if_icmp .ge 25, 3) := by decide +kernel
theorem dX7_count_85 : decode cX7_count 85 = .ok (.iload_n 2, 1) := by decide +kernel
theorem dX7_count_86 : decode cX7_count 86 = .ok (.aload_n 0, 1) := by decide +kernel
theorem dX7_count_87 : decode cX7_count 87 = .ok (.iload_n 3, 1) := by decide +kernel
theorem dX7_count_88 : decode cX7_count 88 = .ok (.invokevirtual 225, 3) := by decide +kernel
theorem dX7_count_91 : decode cX7_count 91 = .ok (.ifCond .eq 7, 3) := by decide +kernel
theorem dX7_count_94 : decode cX7_count 94 = .ok (.iconst 1, 1) := by decide +kernel
theorem dX7_count_95 : decode cX7_count 95 = .ok (.goto 4, 3) := by decide +kernel
theorem dX7_count_98 : decode cX7_count 98 = .ok (.iconst 0, 1) := by decide +kernel
theorem dX7_count_99 : decode cX7_count 99 = .ok (.iadd, 1) := by decide +kernel
theorem dX7_count_100 : decode cX7_count 100 = .ok (.istore_n 2, 1) := by decide +kernel
theorem dX7_count_101 : decode cX7_count 101 = .ok (.iinc 3 1, 3) := by decide +kernel
theorem dX7_count_104 : decode cX7_count 104 = .ok (.goto (-27), 3) := by decide +kernel
theorem dX7_count_107 : decode cX7_count 107 = .ok (.iload_n 2, 1) := by decide +kernel
theorem dX7_count_108 : decode cX7_count 108 = .ok (.ireturn, 1) := by decide +kernel
theorem dX7_count_109 : decode cX7_count 109 = .ok (.iconst 0, 1) := by decide +kernel
theorem dX7_count_110 : decode cX7_count 110 = .ok (.istore_n 3, 1) := by decide +kernel
theorem dX7_count_111 : decode cX7_count 111 = .ok (.iload_n 3, 1) := by decide +kernel
theorem dX7_count_112 : decode cX7_count 112 = .ok (.aload_n 0, 1) := by decide +kernel
theorem dX7_count_113 : decode cX7_count 113 = .ok (.getfield 101, 3) := by decide +kernel
theorem dX7_count_116 : decode cX7_count 116 = .ok (.if_icmp .ge 18, 3) := by decide +kernel
theorem dX7_count_119 : decode cX7_count 119 = .ok (.iload_n 2, 1) := by decide +kernel
theorem dX7_count_120 : decode cX7_count 120 = .ok (.aload_n 0, 1) := by decide +kernel
theorem dX7_count_121 : decode cX7_count 121 = .ok (.getfield 48, 3) := by decide +kernel
theorem dX7_count_124 : decode cX7_count 124 = .ok (.iload_n 3, 1) := by decide +kernel
theorem dX7_count_125 : decode cX7_count 125 = .ok (.iaload, 1) := by decide +kernel
theorem dX7_count_126 : decode cX7_count 126 = .ok (.iadd, 1) := by decide +kernel
theorem dX7_count_127 : decode cX7_count 127 = .ok (.istore_n 2, 1) := by decide +kernel
theorem dX7_count_128 : decode cX7_count 128 = .ok (.iinc 3 1, 3) := by decide +kernel
theorem dX7_count_131 : decode cX7_count 131 = .ok (.goto (-20), 3) := by decide +kernel
theorem dX7_count_134 : decode cX7_count 134 = .ok (.iload_n 2, 1) := by decide +kernel
theorem dX7_count_135 : decode cX7_count 135 = .ok (.ireturn, 1) := by decide +kernel
theorem dX7_count_136 : decode cX7_count 136 = .ok (.iconst 0, 1) := by decide +kernel
theorem dX7_count_137 : decode cX7_count 137 = .ok (.istore_n 3, 1) := by decide +kernel
theorem dX7_count_138 : decode cX7_count 138 = .ok (.iload_n 3, 1) := by decide +kernel
theorem dX7_count_139 : decode cX7_count 139 = .ok (.aload_n 0, 1) := by decide +kernel
theorem dX7_count_140 : decode cX7_count 140 = .ok (.getfield 101, 3) := by decide +kernel
theorem dX7_count_143 : decode cX7_count 143 = .ok (.if_icmp .ge 132, 3) := by decide +kernel
theorem dX7_count_146 : decode cX7_count 146 = .ok (.iconst 0, 1) := by decide +kernel
theorem dX7_count_147 : decode cX7_count 147 = .ok (.istore 4, 2) := by decide +kernel
theorem dX7_count_149 : decode cX7_count 149 = .ok (.iload 4, 2) := by decide +kernel
theorem dX7_count_151 : decode cX7_count 151 = .ok (.aload_n 0, 1) := by decide +kernel
theorem dX7_count_152 : decode cX7_count 152 = .ok (.getfield 48, 3) := by decide +kernel
theorem dX7_count_155 : decode cX7_count 155 = .ok (.iload_n 3, 1) := by decide +kernel
theorem dX7_count_156 : decode cX7_count 156 = .ok (.iaload, 1) := by decide +kernel
theorem dX7_count_157 : decode cX7_count 157 = .ok (.if_icmp .ge 112, 3) := by decide +kernel
theorem dX7_count_160 : decode cX7_count 160 = .ok (.bipush 6, 2) := by decide +kernel
theorem dX7_count_162 : decode cX7_count 162 = .ok (.iload_n 3, 1) := by decide +kernel
theorem dX7_count_163 : decode cX7_count 163 = .ok (.imul, 1) := by decide +kernel
theorem dX7_count_164 : decode cX7_count 164 = .ok (.iload 4, 2) := by decide +kernel
theorem dX7_count_166 : decode cX7_count 166 = .ok (.iadd, 1) := by decide +kernel
theorem dX7_count_167 : decode cX7_count 167 = .ok (.istore 5, 2) := by decide +kernel
theorem dX7_count_169 : decode cX7_count 169 = .ok (.aload_n 0, 1) := by decide +kernel
theorem dX7_count_170 : decode cX7_count 170 = .ok (.getfield 72, 3) := by decide +kernel
theorem dX7_count_173 : decode cX7_count 173 = .ok (.iload 5, 2) := by decide +kernel
theorem dX7_count_175 : decode cX7_count 175 = .ok (.iaload, 1) := by decide +kernel
theorem dX7_count_176 : decode cX7_count 176 = .ok (.ifCond .lt 7, 3) := by decide +kernel
theorem dX7_count_179 : decode cX7_count 179 = .ok (.iconst 1, 1) := by decide +kernel
theorem dX7_count_180 : decode cX7_count 180 = .ok (.goto 4, 3) := by decide +kernel
theorem dX7_count_183 : decode cX7_count 183 = .ok (.iconst 0, 1) := by decide +kernel
theorem dX7_count_184 : decode cX7_count 184 = .ok (.istore 6, 2) := by decide +kernel
theorem dX7_count_186 : decode cX7_count 186 = .ok (.iload_n 2, 1) := by decide +kernel
theorem dX7_count_187 : decode cX7_count 187 = .ok (.iload_n 1, 1) := by decide +kernel
theorem dX7_count_188 : decode cX7_count 188 = .ok (.iconst 5, 1) := by decide +kernel
theorem dX7_count_189 : decode cX7_count 189 = .ok (.if_icmp .ne 21, 3) := by decide +kernel
theorem dX7_count_192 : decode cX7_count 192 = .ok (.iload 6, 2) := by decide +kernel
theorem dX7_count_194 : decode cX7_count 194 = .ok (.ifCond .ne 66, 3) := by decide +kernel
theorem dX7_count_197 : decode cX7_count 197 = .ok (.aload_n 0, 1) := by decide +kernel
theorem dX7_count_198 : decode cX7_count 198 = .ok (.getfield 66, 3) := by decide +kernel
theorem dX7_count_201 : decode cX7_count 201 = .ok (.iload 5, 2) := by decide +kernel
theorem dX7_count_203 : decode cX7_count 203 = .ok (.iaload, 1) := by decide +kernel
theorem dX7_count_204 : decode cX7_count 204 = .ok (.ifCond .ge 56, 3) := by decide +kernel
theorem dX7_count_207 : decode cX7_count 207 = .ok (.goto 49, 3) := by decide +kernel
theorem dX7_count_210 : decode cX7_count 210 = .ok (.iload_n 1, 1) := by decide +kernel
theorem dX7_count_211 : decode cX7_count 211 = .ok (.bipush 6, 2) := by decide +kernel
theorem dX7_count_213 : decode cX7_count 213 = .ok (.if_icmp .ne 11, 3) := by decide +kernel
theorem dX7_count_216 : decode cX7_count 216 = .ok (.iload 6, 2) := by decide +kernel
theorem dX7_count_218 : decode cX7_count 218 = .ok (.ifCond .eq 42, 3) := by decide +kernel
theorem dX7_count_221 : decode cX7_count 221 = .ok (.goto 35, 3) := by decide +kernel
theorem dX7_count_224 : decode cX7_count 224 = .ok (.iload 6, 2) := by decide +kernel
theorem dX7_count_226 : decode cX7_count 226 = .ok (.ifCond .eq 34, 3) := by decide +kernel
theorem dX7_count_229 : decode cX7_count 229 = .ok (.aload_n 0, 1) := by decide +kernel
theorem dX7_count_230 : decode cX7_count 230 = .ok (.getfield 66, 3) := by decide +kernel
theorem dX7_count_233 : decode cX7_count 233 = .ok (.iload 5, 2) := by decide +kernel
theorem dX7_count_235 : decode cX7_count 235 = .ok (.iaload, 1) := by decide +kernel
theorem dX7_count_236 : decode cX7_count 236 = .ok (.ifCond .lt 24, 3) := by decide +kernel
theorem dX7_count_239 : decode cX7_count 239 = .ok (.aload_n 0, 1) := by decide +kernel
theorem dX7_count_240 : decode cX7_count 240 = .ok (.getfield 72, 3) := by decide +kernel
theorem dX7_count_243 : decode cX7_count 243 = .ok (.iload 5, 2) := by decide +kernel
theorem dX7_count_245 : decode cX7_count 245 = .ok (.iaload, 1) := by decide +kernel
theorem dX7_count_246 : decode cX7_count 246 = .ok (.aload_n 0, 1) := by decide +kernel
theorem dX7_count_247 : decode cX7_count 247 = .ok (.getfield 69, 3) := by decide +kernel
theorem dX7_count_250 : decode cX7_count 250 = .ok (.iload 5, 2) := by decide +kernel
theorem dX7_count_252 : decode cX7_count 252 = .ok (.iaload, 1) := by decide +kernel
theorem dX7_count_253 : decode cX7_count 253 = .ok (.if_icmp .le 7, 3) := by decide +kernel
theorem dX7_count_256 : decode cX7_count 256 = .ok (.iconst 1, 1) := by decide +kernel
theorem dX7_count_257 : decode cX7_count 257 = .ok (.goto 4, 3) := by decide +kernel
theorem dX7_count_260 : decode cX7_count 260 = .ok (.iconst 0, 1) := by decide +kernel
theorem dX7_count_261 : decode cX7_count 261 = .ok (.iadd, 1) := by decide +kernel
theorem dX7_count_262 : decode cX7_count 262 = .ok (.istore_n 2, 1) := by decide +kernel
theorem dX7_count_263 : decode cX7_count 263 = .ok (.iinc 4 1, 3) := by decide +kernel
theorem dX7_count_266 : decode cX7_count 266 = .ok (.goto (-117), 3) := by decide +kernel
theorem dX7_count_269 : decode cX7_count 269 = .ok (.iinc 3 1, 3) := by decide +kernel
theorem dX7_count_272 : decode cX7_count 272 = .ok (.goto (-134), 3) := by decide +kernel
theorem dX7_count_275 : decode cX7_count 275 = .ok (.iload_n 2, 1) := by decide +kernel
theorem dX7_count_276 : decode cX7_count 276 = .ok (.ireturn, 1) := by decide +kernel
theorem dX7_count_277 : decode cX7_count 277 = .ok (.aload_n 0, 1) := by decide +kernel
theorem dX7_count_278 : decode cX7_count 278 = .ok (.getfield 217, 3) := by decide +kernel
theorem dX7_count_281 : decode cX7_count 281 = .ok (.ireturn, 1) := by decide +kernel
theorem dX7_count_282 : decode cX7_count 282 = .ok (.iconst (-1), 1) := by decide +kernel
theorem dX7_count_283 : decode cX7_count 283 = .ok (.ireturn, 1) := by decide +kernel
end
section
theorem dL_cause_0 : decode cL_cause 0 = .ok (.aload 5, 2) := by decide +kernel
theorem dL_cause_2 : decode cL_cause 2 = .ok (.iconst 0, 1) := by decide +kernel
theorem dL_cause_3 : decode cL_cause 3 = .ok (.aload_n 0, 1) := by decide +kernel
theorem dL_cause_4 : decode cL_cause 4 = .ok (.iload_n 1, 1) := by decide +kernel
theorem dL_cause_5 : decode cL_cause 5 = .ok (.iload_n 2, 1) := by decide +kernel
theorem dL_cause_6 : decode cL_cause 6 = .ok (.iload_n 3, 1) := by decide +kernel
theorem dL_cause_7 : decode cL_cause 7 = .ok (.iload 4, 2) := by decide +kernel
theorem dL_cause_9 : decode cL_cause 9 = .ok (.invokevirtual 7, 3) := by decide +kernel
theorem dL_cause_12 : decode cL_cause 12 = .ok (.i2l, 1) := by decide +kernel
theorem dL_cause_13 : decode cL_cause 13 = .ok (.lastore, 1) := by decide +kernel
theorem dL_cause_14 : decode cL_cause 14 = .ok (.goto 15, 3) := by decide +kernel
theorem dL_cause_17 : decode cL_cause 17 = .ok (.astore 6, 2) := by decide +kernel
theorem dL_cause_19 : decode cL_cause 19 = .ok (.iconst 1, 1) := by decide +kernel
theorem dL_cause_20 : decode cL_cause 20 = .ok (.ireturn, 1) := by decide +kernel
theorem dL_cause_21 : decode cL_cause 21 = .ok (.astore 6, 2) := by decide +kernel
theorem dL_cause_23 : decode cL_cause 23 = .ok (.iconst 2, 1) := by decide +kernel
theorem dL_cause_24 : decode cL_cause 24 = .ok (.ireturn, 1) := by decide +kernel
theorem dL_cause_25 : decode cL_cause 25 = .ok (.astore 6, 2) := by decide +kernel
theorem dL_cause_27 : decode cL_cause 27 = .ok (.iconst 3, 1) := by decide +kernel
theorem dL_cause_28 : decode cL_cause 28 = .ok (.ireturn, 1) := by decide +kernel
theorem dL_cause_29 : decode cL_cause 29 = .ok (.iconst 0, 1) := by decide +kernel
theorem dL_cause_30 : decode cL_cause 30 = .ok (.ireturn, 1) := by decide +kernel
theorem dL_pattern_0 : decode cL_pattern 0 = .ok (.aload_n 2, 1) := by decide +kernel
theorem dL_pattern_1 : decode cL_pattern 1 = .ok (.iconst 0, 1) := by decide +kernel
theorem dL_pattern_2 : decode cL_pattern 2 = .ok (.aload_n 0, 1) := by decide +kernel
theorem dL_pattern_3 : decode cL_pattern 3 = .ok (.iload_n 1, 1) := by decide +kernel
theorem dL_pattern_4 : decode cL_pattern 4 = .ok (.invokevirtual 19, 3) := by decide +kernel
theorem dL_pattern_7 : decode cL_pattern 7 = .ok (.i2l, 1) := by decide +kernel
theorem dL_pattern_8 : decode cL_pattern 8 = .ok (.lastore, 1) := by decide +kernel
theorem dL_pattern_9 : decode cL_pattern 9 = .ok (.goto 9, 3) := by decide +kernel
theorem dL_pattern_12 : decode cL_pattern 12 = .ok (.astore_n 3, 1) := by decide +kernel
theorem dL_pattern_13 : decode cL_pattern 13 = .ok (.iconst 1, 1) := by decide +kernel
theorem dL_pattern_14 : decode cL_pattern 14 = .ok (.ireturn, 1) := by decide +kernel
theorem dL_pattern_15 : decode cL_pattern 15 = .ok (.astore_n 3, 1) := by decide +kernel
theorem dL_pattern_16 : decode cL_pattern 16 = .ok (.iconst 2, 1) := by decide +kernel
theorem dL_pattern_17 : decode cL_pattern 17 = .ok (.ireturn, 1) := by decide +kernel
theorem dL_pattern_18 : decode cL_pattern 18 = .ok (.iconst 0, 1) := by decide +kernel
theorem dL_pattern_19 : decode cL_pattern 19 = .ok (.ireturn, 1) := by decide +kernel
theorem dL_letter_0 : decode cL_letter 0 = .ok (.aload_n 2, 1) := by decide +kernel
theorem dL_letter_1 : decode cL_letter 1 = .ok (.iconst 0, 1) := by decide +kernel
theorem dL_letter_2 : decode cL_letter 2 = .ok (.aload_n 0, 1) := by decide +kernel
theorem dL_letter_3 : decode cL_letter 3 = .ok (.iload_n 1, 1) := by decide +kernel
theorem dL_letter_4 : decode cL_letter 4 = .ok (.invokevirtual 23, 3) := by decide +kernel
theorem dL_letter_7 : decode cL_letter 7 = .ok (.i2l, 1) := by decide +kernel
theorem dL_letter_8 : decode cL_letter 8 = .ok (.lastore, 1) := by decide +kernel
theorem dL_letter_9 : decode cL_letter 9 = .ok (.goto 9, 3) := by decide +kernel
theorem dL_letter_12 : decode cL_letter 12 = .ok (.astore_n 3, 1) := by decide +kernel
theorem dL_letter_13 : decode cL_letter 13 = .ok (.iconst 1, 1) := by decide +kernel
theorem dL_letter_14 : decode cL_letter 14 = .ok (.ireturn, 1) := by decide +kernel
theorem dL_letter_15 : decode cL_letter 15 = .ok (.astore_n 3, 1) := by decide +kernel
theorem dL_letter_16 : decode cL_letter 16 = .ok (.iconst 2, 1) := by decide +kernel
theorem dL_letter_17 : decode cL_letter 17 = .ok (.ireturn, 1) := by decide +kernel
theorem dL_letter_18 : decode cL_letter 18 = .ok (.iconst 0, 1) := by decide +kernel
theorem dL_letter_19 : decode cL_letter 19 = .ok (.ireturn, 1) := by decide +kernel
theorem dL_hours_0 : decode cL_hours 0 = .ok (.aload_n 0, 1) := by decide +kernel
theorem dL_hours_1 : decode cL_hours 1 = .ok (.iload_n 1, 1) := by decide +kernel
theorem dL_hours_2 : decode cL_hours 2 = .ok (.iload_n 2, 1) := by decide +kernel
theorem dL_hours_3 : decode cL_hours 3 = .ok (.invokevirtual 26, 3) := by decide +kernel
theorem dL_hours_6 : decode cL_hours 6 = .ok (.goto 9, 3) := by decide +kernel
theorem dL_hours_9 : decode cL_hours 9 = .ok (.astore_n 3, 1) := by decide +kernel
theorem dL_hours_10 : decode cL_hours 10 = .ok (.iconst 1, 1) := by decide +kernel
theorem dL_hours_11 : decode cL_hours 11 = .ok (.ireturn, 1) := by decide +kernel
theorem dL_hours_12 : decode cL_hours 12 = .ok (.astore_n 3, 1) := by decide +kernel
theorem dL_hours_13 : decode cL_hours 13 = .ok (.iconst 2, 1) := by decide +kernel
theorem dL_hours_14 : decode cL_hours 14 = .ok (.ireturn, 1) := by decide +kernel
theorem dL_hours_15 : decode cL_hours 15 = .ok (.iconst 0, 1) := by decide +kernel
theorem dL_hours_16 : decode cL_hours 16 = .ok (.ireturn, 1) := by decide +kernel
theorem dL_days_0 : decode cL_days 0 = .ok (.aload_n 2, 1) := by decide +kernel
theorem dL_days_1 : decode cL_days 1 = .ok (.iconst 0, 1) := by decide +kernel
theorem dL_days_2 : decode cL_days 2 = .ok (.aload_n 0, 1) := by decide +kernel
theorem dL_days_3 : decode cL_days 3 = .ok (.iload_n 1, 1) := by decide +kernel
theorem dL_days_4 : decode cL_days 4 = .ok (.invokevirtual 30, 3) := by decide +kernel
theorem dL_days_7 : decode cL_days 7 = .ok (.i2l, 1) := by decide +kernel
theorem dL_days_8 : decode cL_days 8 = .ok (.lastore, 1) := by decide +kernel
theorem dL_days_9 : decode cL_days 9 = .ok (.goto 6, 3) := by decide +kernel
theorem dL_days_12 : decode cL_days 12 = .ok (.astore_n 3, 1) := by decide +kernel
theorem dL_days_13 : decode cL_days 13 = .ok (.iconst 1, 1) := by decide +kernel
theorem dL_days_14 : decode cL_days 14 = .ok (.ireturn, 1) := by decide +kernel
theorem dL_days_15 : decode cL_days 15 = .ok (.iconst 0, 1) := by decide +kernel
theorem dL_days_16 : decode cL_days 16 = .ok (.ireturn, 1) := by decide +kernel
theorem dL_answer_0 : decode cL_answer 0 = .ok (.aload_n 3, 1) := by decide +kernel
theorem dL_answer_1 : decode cL_answer 1 = .ok (.iconst 0, 1) := by decide +kernel
theorem dL_answer_2 : decode cL_answer 2 = .ok (.aload_n 0, 1) := by decide +kernel
theorem dL_answer_3 : decode cL_answer 3 = .ok (.iload_n 1, 1) := by decide +kernel
theorem dL_answer_4 : decode cL_answer 4 = .ok (.iload_n 2, 1) := by decide +kernel
theorem dL_answer_5 : decode cL_answer 5 = .ok (.invokevirtual 33, 3) := by decide +kernel
theorem dL_answer_8 : decode cL_answer 8 = .ok (.ifCond .eq 7, 3) := by decide +kernel
theorem dL_answer_11 : decode cL_answer 11 = .ok (.lconst 1, 1) := by decide +kernel
theorem dL_answer_12 : decode cL_answer 12 = .ok (.goto 4, 3) := by decide +kernel
theorem dL_answer_15 : decode cL_answer 15 = .ok (.lconst 0, 1) := by decide +kernel
theorem dL_answer_16 : decode cL_answer 16 = .ok (.lastore, 1) := by decide +kernel
theorem dL_answer_17 : decode cL_answer 17 = .ok (.goto 7, 3) := by decide +kernel
theorem dL_answer_20 : decode cL_answer 20 = .ok (.astore 4, 2) := by decide +kernel
theorem dL_answer_22 : decode cL_answer 22 = .ok (.iconst 1, 1) := by decide +kernel
theorem dL_answer_23 : decode cL_answer 23 = .ok (.ireturn, 1) := by decide +kernel
theorem dL_answer_24 : decode cL_answer 24 = .ok (.iconst 0, 1) := by decide +kernel
theorem dL_answer_25 : decode cL_answer 25 = .ok (.ireturn, 1) := by decide +kernel
theorem dL_point_0 : decode cL_point 0 = .ok (.aload 4, 2) := by decide +kernel
theorem dL_point_2 : decode cL_point 2 = .ok (.iconst 0, 1) := by decide +kernel
theorem dL_point_3 : decode cL_point 3 = .ok (.aload_n 0, 1) := by decide +kernel
theorem dL_point_4 : decode cL_point 4 = .ok (.iload_n 1, 1) := by decide +kernel
theorem dL_point_5 : decode cL_point 5 = .ok (.iload_n 2, 1) := by decide +kernel
theorem dL_point_6 : decode cL_point 6 = .ok (.iload_n 3, 1) := by decide +kernel
theorem dL_point_7 : decode cL_point 7 = .ok (.invokevirtual 37, 3) := by decide +kernel
theorem dL_point_10 : decode cL_point 10 = .ok (.i2l, 1) := by decide +kernel
theorem dL_point_11 : decode cL_point 11 = .ok (.lastore, 1) := by decide +kernel
theorem dL_point_12 : decode cL_point 12 = .ok (.goto 11, 3) := by decide +kernel
theorem dL_point_15 : decode cL_point 15 = .ok (.astore 5, 2) := by decide +kernel
theorem dL_point_17 : decode cL_point 17 = .ok (.iconst 1, 1) := by decide +kernel
theorem dL_point_18 : decode cL_point 18 = .ok (.ireturn, 1) := by decide +kernel
theorem dL_point_19 : decode cL_point 19 = .ok (.astore 5, 2) := by decide +kernel
theorem dL_point_21 : decode cL_point 21 = .ok (.iconst 2, 1) := by decide +kernel
theorem dL_point_22 : decode cL_point 22 = .ok (.ireturn, 1) := by decide +kernel
theorem dL_point_23 : decode cL_point 23 = .ok (.iconst 0, 1) := by decide +kernel
theorem dL_point_24 : decode cL_point 24 = .ok (.ireturn, 1) := by decide +kernel
theorem dL_look_0 : decode cL_look 0 = .ok (.aload_n 3, 1) := by decide +kernel
theorem dL_look_1 : decode cL_look 1 = .ok (.iconst 0, 1) := by decide +kernel
theorem dL_look_2 : decode cL_look 2 = .ok (.aload_n 0, 1) := by decide +kernel
theorem dL_look_3 : decode cL_look 3 = .ok (.iload_n 1, 1) := by decide +kernel
theorem dL_look_4 : decode cL_look 4 = .ok (.iload_n 2, 1) := by decide +kernel
theorem dL_look_5 : decode cL_look 5 = .ok (.invokevirtual 43, 3) := by decide +kernel
theorem dL_look_8 : decode cL_look 8 = .ok (.i2l, 1) := by decide +kernel
theorem dL_look_9 : decode cL_look 9 = .ok (.lastore, 1) := by decide +kernel
theorem dL_look_10 : decode cL_look 10 = .ok (.goto 11, 3) := by decide +kernel
theorem dL_look_13 : decode cL_look 13 = .ok (.astore 4, 2) := by decide +kernel
theorem dL_look_15 : decode cL_look 15 = .ok (.iconst 1, 1) := by decide +kernel
theorem dL_look_16 : decode cL_look 16 = .ok (.ireturn, 1) := by decide +kernel
theorem dL_look_17 : decode cL_look 17 = .ok (.astore 4, 2) := by decide +kernel
theorem dL_look_19 : decode cL_look 19 = .ok (.iconst 2, 1) := by decide +kernel
theorem dL_look_20 : decode cL_look 20 = .ok (.ireturn, 1) := by decide +kernel
theorem dL_look_21 : decode cL_look 21 = .ok (.iconst 0, 1) := by decide +kernel
theorem dL_look_22 : decode cL_look 22 = .ok (.ireturn, 1) := by decide +kernel
theorem dL_late_0 : decode cL_late 0 = .ok (.aload_n 2, 1) := by decide +kernel
theorem dL_late_1 : decode cL_late 1 = .ok (.iconst 0, 1) := by decide +kernel
theorem dL_late_2 : decode cL_late 2 = .ok (.aload_n 0, 1) := by decide +kernel
theorem dL_late_3 : decode cL_late 3 = .ok (.iload_n 1, 1) := by decide +kernel
theorem dL_late_4 : decode cL_late 4 = .ok (.invokevirtual 47, 3) := by decide +kernel
theorem dL_late_7 : decode cL_late 7 = .ok (.i2l, 1) := by decide +kernel
theorem dL_late_8 : decode cL_late 8 = .ok (.lastore, 1) := by decide +kernel
theorem dL_late_9 : decode cL_late 9 = .ok (.goto 6, 3) := by decide +kernel
theorem dL_late_12 : decode cL_late 12 = .ok (.astore_n 3, 1) := by decide +kernel
theorem dL_late_13 : decode cL_late 13 = .ok (.iconst 1, 1) := by decide +kernel
theorem dL_late_14 : decode cL_late 14 = .ok (.ireturn, 1) := by decide +kernel
theorem dL_late_15 : decode cL_late 15 = .ok (.iconst 0, 1) := by decide +kernel
theorem dL_late_16 : decode cL_late 16 = .ok (.ireturn, 1) := by decide +kernel
theorem dL_waits_0 : decode cL_waits 0 = .ok (.aload_n 2, 1) := by decide +kernel
theorem dL_waits_1 : decode cL_waits 1 = .ok (.iconst 0, 1) := by decide +kernel
theorem dL_waits_2 : decode cL_waits 2 = .ok (.aload_n 0, 1) := by decide +kernel
theorem dL_waits_3 : decode cL_waits 3 = .ok (.iload_n 1, 1) := by decide +kernel
theorem dL_waits_4 : decode cL_waits 4 = .ok (.invokevirtual 50, 3) := by decide +kernel
theorem dL_waits_7 : decode cL_waits 7 = .ok (.i2l, 1) := by decide +kernel
theorem dL_waits_8 : decode cL_waits 8 = .ok (.lastore, 1) := by decide +kernel
theorem dL_waits_9 : decode cL_waits 9 = .ok (.goto 6, 3) := by decide +kernel
theorem dL_waits_12 : decode cL_waits 12 = .ok (.astore_n 3, 1) := by decide +kernel
theorem dL_waits_13 : decode cL_waits 13 = .ok (.iconst 1, 1) := by decide +kernel
theorem dL_waits_14 : decode cL_waits 14 = .ok (.ireturn, 1) := by decide +kernel
theorem dL_waits_15 : decode cL_waits 15 = .ok (.iconst 0, 1) := by decide +kernel
theorem dL_waits_16 : decode cL_waits 16 = .ok (.ireturn, 1) := by decide +kernel
theorem dL_template_0 : decode cL_template 0 = .ok (.aload_n 2, 1) := by decide +kernel
theorem dL_template_1 : decode cL_template 1 = .ok (.iconst 0, 1) := by decide +kernel
theorem dL_template_2 : decode cL_template 2 = .ok (.aload_n 0, 1) := by decide +kernel
theorem dL_template_3 : decode cL_template 3 = .ok (.iload_n 1, 1) := by decide +kernel
theorem dL_template_4 : decode cL_template 4 = .ok (.invokevirtual 53, 3) := by decide +kernel
theorem dL_template_7 : decode cL_template 7 = .ok (.i2l, 1) := by decide +kernel
theorem dL_template_8 : decode cL_template 8 = .ok (.lastore, 1) := by decide +kernel
theorem dL_template_9 : decode cL_template 9 = .ok (.goto 6, 3) := by decide +kernel
theorem dL_template_12 : decode cL_template 12 = .ok (.astore_n 3, 1) := by decide +kernel
theorem dL_template_13 : decode cL_template 13 = .ok (.iconst 1, 1) := by decide +kernel
theorem dL_template_14 : decode cL_template 14 = .ok (.ireturn, 1) := by decide +kernel
theorem dL_template_15 : decode cL_template 15 = .ok (.iconst 0, 1) := by decide +kernel
theorem dL_template_16 : decode cL_template 16 = .ok (.ireturn, 1) := by decide +kernel
theorem dL_counts_0 : decode cL_counts 0 = .ok (.aload_n 3, 1) := by decide +kernel
theorem dL_counts_1 : decode cL_counts 1 = .ok (.iconst 0, 1) := by decide +kernel
theorem dL_counts_2 : decode cL_counts 2 = .ok (.aload_n 0, 1) := by decide +kernel
theorem dL_counts_3 : decode cL_counts 3 = .ok (.iload_n 1, 1) := by decide +kernel
theorem dL_counts_4 : decode cL_counts 4 = .ok (.iload_n 2, 1) := by decide +kernel
theorem dL_counts_5 : decode cL_counts 5 = .ok (.invokevirtual 56, 3) := by decide +kernel
theorem dL_counts_8 : decode cL_counts 8 = .ok (.i2l, 1) := by decide +kernel
theorem dL_counts_9 : decode cL_counts 9 = .ok (.lastore, 1) := by decide +kernel
theorem dL_counts_10 : decode cL_counts 10 = .ok (.goto 7, 3) := by decide +kernel
theorem dL_counts_13 : decode cL_counts 13 = .ok (.astore 4, 2) := by decide +kernel
theorem dL_counts_15 : decode cL_counts 15 = .ok (.iconst 1, 1) := by decide +kernel
theorem dL_counts_16 : decode cL_counts 16 = .ok (.ireturn, 1) := by decide +kernel
theorem dL_counts_17 : decode cL_counts 17 = .ok (.iconst 0, 1) := by decide +kernel
theorem dL_counts_18 : decode cL_counts 18 = .ok (.ireturn, 1) := by decide +kernel
theorem dL_wave_0 : decode cL_wave 0 = .ok (.aload_n 2, 1) := by decide +kernel
theorem dL_wave_1 : decode cL_wave 1 = .ok (.iconst 0, 1) := by decide +kernel
theorem dL_wave_2 : decode cL_wave 2 = .ok (.aload_n 0, 1) := by decide +kernel
theorem dL_wave_3 : decode cL_wave 3 = .ok (.iload_n 1, 1) := by decide +kernel
theorem dL_wave_4 : decode cL_wave 4 = .ok (.invokevirtual 59, 3) := by decide +kernel
theorem dL_wave_7 : decode cL_wave 7 = .ok (.i2l, 1) := by decide +kernel
theorem dL_wave_8 : decode cL_wave 8 = .ok (.lastore, 1) := by decide +kernel
theorem dL_wave_9 : decode cL_wave 9 = .ok (.goto 6, 3) := by decide +kernel
theorem dL_wave_12 : decode cL_wave 12 = .ok (.astore_n 3, 1) := by decide +kernel
theorem dL_wave_13 : decode cL_wave 13 = .ok (.iconst 1, 1) := by decide +kernel
theorem dL_wave_14 : decode cL_wave 14 = .ok (.ireturn, 1) := by decide +kernel
theorem dL_wave_15 : decode cL_wave 15 = .ok (.iconst 0, 1) := by decide +kernel
theorem dL_wave_16 : decode cL_wave 16 = .ok (.ireturn, 1) := by decide +kernel
theorem dL_law_0 : decode cL_law 0 = .ok (.new 8, 3) := by decide +kernel
theorem dL_law_3 : decode cL_law 3 = .ok (.dup, 1) := by decide +kernel
theorem dL_law_4 : decode cL_law 4 = .ok (.invokespecial 62, 3) := by decide +kernel
theorem dL_law_7 : decode cL_law 7 = .ok (.astore_n 1, 1) := by decide +kernel
theorem dL_law_8 : decode cL_law 8 = .ok (.new 63, 3) := by decide +kernel
theorem dL_law_11 : decode cL_law 11 = .ok (.dup, 1) := by decide +kernel
theorem dL_law_12 : decode cL_law 12 = .ok (.invokespecial 65, 3) := by decide +kernel
theorem dL_law_15 : decode cL_law 15 = .ok (.astore_n 2, 1) := by decide +kernel
theorem dL_law_16 : decode cL_law 16 = .ok (.iconst 1, 1) := by decide +kernel
theorem dL_law_17 : decode cL_law 17 = .ok (.newarray .long, 2) := by decide +kernel
theorem dL_law_19 : decode cL_law 19 = .ok (.astore_n 3, 1) := by decide +kernel
theorem dL_law_20 : decode cL_law 20 = .ok (.iconst 0, 1) := by decide +kernel
theorem dL_law_21 : decode cL_law 21 = .ok (.istore 4, 2) := by decide +kernel
theorem dL_law_23 : decode cL_law 23 = .ok (.iload 4, 2) := by decide +kernel
theorem dL_law_25 : decode cL_law 25 = .ok (.aload_n 0, 1) := by decide +kernel
theorem dL_law_26 : decode cL_law 26 = .ok (.arraylength, 1) := by decide +kernel
theorem dL_law_27 : decode cL_law 27 = .ok (.bipush 6, 2) := by decide +kernel
theorem dL_law_29 : decode cL_law 29 = .ok (.isub, 1) := by decide +kernel
theorem dL_law_30 : decode cL_law 30 = .ok (.if_icmp .gt 1075, 3) := by decide +kernel
theorem dL_law_33 : decode cL_law 33 = .ok (.aload_n 0, 1) := by decide +kernel
theorem dL_law_34 : decode cL_law 34 = .ok (.iload 4, 2) := by decide +kernel
theorem dL_law_36 : decode cL_law 36 = .ok (.iaload, 1) := by decide +kernel
theorem dL_law_37 : decode cL_law 37 = .ok (.bipush 31, 2) := by decide +kernel
theorem dL_law_39 : decode cL_law 39 = .ok (.iand, 1) := by decide +kernel
theorem dL_law_40 : decode cL_law 40 = .ok (.tableswitch 1059 0 16 #[84, 157, 182, 290, 346, 402, 415, 463, 519, 594, 674, 742, 798, 854, 910, 978, 1034], 84) := by decide +kernel
theorem dL_law_124 : decode cL_law 124 = .ok (.aload_n 1, 1) := by decide +kernel
theorem dL_law_125 : decode cL_law 125 = .ok (.aload_n 0, 1) := by decide +kernel
theorem dL_law_126 : decode cL_law 126 = .ok (.iload 4, 2) := by decide +kernel
theorem dL_law_128 : decode cL_law 128 = .ok (.iconst 1, 1) := by decide +kernel
theorem dL_law_129 : decode cL_law 129 = .ok (.iadd, 1) := by decide +kernel
theorem dL_law_130 : decode cL_law 130 = .ok (.iaload, 1) := by decide +kernel
theorem dL_law_131 : decode cL_law 131 = .ok (.aload_n 0, 1) := by decide +kernel
theorem dL_law_132 : decode cL_law 132 = .ok (.iload 4, 2) := by decide +kernel
theorem dL_law_134 : decode cL_law 134 = .ok (.iconst 2, 1) := by decide +kernel
theorem dL_law_135 : decode cL_law 135 = .ok (.iadd, 1) := by decide +kernel
theorem dL_law_136 : decode cL_law 136 = .ok (.iaload, 1) := by decide +kernel
theorem dL_law_137 : decode cL_law 137 = .ok (.aload_n 0, 1) := by decide +kernel
theorem dL_law_138 : decode cL_law 138 = .ok (.iload 4, 2) := by decide +kernel
theorem dL_law_140 : decode cL_law 140 = .ok (.iconst 3, 1) := by decide +kernel
theorem dL_law_141 : decode cL_law 141 = .ok (.iadd, 1) := by decide +kernel
theorem dL_law_142 : decode cL_law 142 = .ok (.iaload, 1) := by decide +kernel
theorem dL_law_143 : decode cL_law 143 = .ok (.aload_n 0, 1) := by decide +kernel
theorem dL_law_144 : decode cL_law 144 = .ok (.iload 4, 2) := by decide +kernel
theorem dL_law_146 : decode cL_law 146 = .ok (.iconst 4, 1) := by decide +kernel
theorem dL_law_147 : decode cL_law 147 = .ok (.iadd, 1) := by decide +kernel
theorem dL_law_148 : decode cL_law 148 = .ok (.iaload, 1) := by decide +kernel
theorem dL_law_149 : decode cL_law 149 = .ok (.aload_n 0, 1) := by decide +kernel
theorem dL_law_150 : decode cL_law 150 = .ok (.iload 4, 2) := by decide +kernel
theorem dL_law_152 : decode cL_law 152 = .ok (.iconst 5, 1) := by decide +kernel
theorem dL_law_153 : decode cL_law 153 = .ok (.iadd, 1) := by decide +kernel
theorem dL_law_154 : decode cL_law 154 = .ok (.iaload, 1) := by decide +kernel
theorem dL_law_155 : decode cL_law 155 = .ok (.invokevirtual 66, 3) := by decide +kernel
theorem dL_law_158 : decode cL_law 158 = .ok (.aload_n 2, 1) := by decide +kernel
theorem dL_law_159 : decode cL_law 159 = .ok (.aload_n 0, 1) := by decide +kernel
theorem dL_law_160 : decode cL_law 160 = .ok (.iload 4, 2) := by decide +kernel
theorem dL_law_162 : decode cL_law 162 = .ok (.iconst 1, 1) := by decide +kernel
theorem dL_law_163 : decode cL_law 163 = .ok (.iadd, 1) := by decide +kernel
theorem dL_law_164 : decode cL_law 164 = .ok (.iaload, 1) := by decide +kernel
theorem dL_law_165 : decode cL_law 165 = .ok (.aload_n 0, 1) := by decide +kernel
theorem dL_law_166 : decode cL_law 166 = .ok (.iload 4, 2) := by decide +kernel
theorem dL_law_168 : decode cL_law 168 = .ok (.iconst 2, 1) := by decide +kernel
theorem dL_law_169 : decode cL_law 169 = .ok (.iadd, 1) := by decide +kernel
theorem dL_law_170 : decode cL_law 170 = .ok (.iaload, 1) := by decide +kernel
theorem dL_law_171 : decode cL_law 171 = .ok (.aload_n 0, 1) := by decide +kernel
theorem dL_law_172 : decode cL_law 172 = .ok (.iload 4, 2) := by decide +kernel
theorem dL_law_174 : decode cL_law 174 = .ok (.iconst 3, 1) := by decide +kernel
theorem dL_law_175 : decode cL_law 175 = .ok (.iadd, 1) := by decide +kernel
theorem dL_law_176 : decode cL_law 176 = .ok (.iaload, 1) := by decide +kernel
theorem dL_law_177 : decode cL_law 177 = .ok (.aload_n 0, 1) := by decide +kernel
theorem dL_law_178 : decode cL_law 178 = .ok (.iload 4, 2) := by decide +kernel
theorem dL_law_180 : decode cL_law 180 = .ok (.iconst 4, 1) := by decide +kernel
theorem dL_law_181 : decode cL_law 181 = .ok (.iadd, 1) := by decide +kernel
theorem dL_law_182 : decode cL_law 182 = .ok (.iaload, 1) := by decide +kernel
theorem dL_law_183 : decode cL_law 183 = .ok (.aload_n 0, 1) := by decide +kernel
theorem dL_law_184 : decode cL_law 184 = .ok (.iload 4, 2) := by decide +kernel
theorem dL_law_186 : decode cL_law 186 = .ok (.iconst 5, 1) := by decide +kernel
theorem dL_law_187 : decode cL_law 187 = .ok (.iadd, 1) := by decide +kernel
theorem dL_law_188 : decode cL_law 188 = .ok (.iaload, 1) := by decide +kernel
theorem dL_law_189 : decode cL_law 189 = .ok (.invokevirtual 70, 3) := by decide +kernel
theorem dL_law_192 : decode cL_law 192 = .ok (.if_icmp .eq 907, 3) := by decide +kernel
theorem dL_law_195 : decode cL_law 195 = .ok (.iconst 0, 1) := by decide +kernel
theorem dL_law_196 : decode cL_law 196 = .ok (.ireturn, 1) := by decide +kernel
theorem dL_law_197 : decode cL_law 197 = .ok (.aload_n 1, 1) := by decide +kernel
theorem dL_law_198 : decode cL_law 198 = .ok (.aload_n 0, 1) := by decide +kernel
theorem dL_law_199 : decode cL_law 199 = .ok (.iload 4, 2) := by decide +kernel
theorem dL_law_201 : decode cL_law 201 = .ok (.iconst 1, 1) := by decide +kernel
theorem dL_law_202 : decode cL_law 202 = .ok (.iadd, 1) := by decide +kernel
theorem dL_law_203 : decode cL_law 203 = .ok (.iaload, 1) := by decide +kernel
theorem dL_law_204 : decode cL_law 204 = .ok (.invokevirtual 71, 3) := by decide +kernel
theorem dL_law_207 : decode cL_law 207 = .ok (.aload_n 2, 1) := by decide +kernel
theorem dL_law_208 : decode cL_law 208 = .ok (.aload_n 0, 1) := by decide +kernel
theorem dL_law_209 : decode cL_law 209 = .ok (.iload 4, 2) := by decide +kernel
theorem dL_law_211 : decode cL_law 211 = .ok (.iconst 1, 1) := by decide +kernel
theorem dL_law_212 : decode cL_law 212 = .ok (.iadd, 1) := by decide +kernel
theorem dL_law_213 : decode cL_law 213 = .ok (.iaload, 1) := by decide +kernel
theorem dL_law_214 : decode cL_law 214 = .ok (.invokevirtual 75, 3) := by decide +kernel
theorem dL_law_217 : decode cL_law 217 = .ok (.if_icmp .eq 882, 3) := by decide +kernel
theorem dL_law_220 : decode cL_law 220 = .ok (.iconst 0, 1) := by decide +kernel
theorem dL_law_221 : decode cL_law 221 = .ok (.ireturn, 1) := by decide +kernel
theorem dL_law_222 : decode cL_law 222 = .ok (.aload_n 1, 1) := by decide +kernel
theorem dL_law_223 : decode cL_law 223 = .ok (.aload_n 0, 1) := by decide +kernel
theorem dL_law_224 : decode cL_law 224 = .ok (.iload 4, 2) := by decide +kernel
theorem dL_law_226 : decode cL_law 226 = .ok (.iconst 1, 1) := by decide +kernel
theorem dL_law_227 : decode cL_law 227 = .ok (.iadd, 1) := by decide +kernel
theorem dL_law_228 : decode cL_law 228 = .ok (.iaload, 1) := by decide +kernel
theorem dL_law_229 : decode cL_law 229 = .ok (.aload_n 0, 1) := by decide +kernel
theorem dL_law_230 : decode cL_law 230 = .ok (.iload 4, 2) := by decide +kernel
theorem dL_law_232 : decode cL_law 232 = .ok (.iconst 2, 1) := by decide +kernel
theorem dL_law_233 : decode cL_law 233 = .ok (.iadd, 1) := by decide +kernel
theorem dL_law_234 : decode cL_law 234 = .ok (.iaload, 1) := by decide +kernel
theorem dL_law_235 : decode cL_law 235 = .ok (.aload_n 0, 1) := by decide +kernel
theorem dL_law_236 : decode cL_law 236 = .ok (.iload 4, 2) := by decide +kernel
theorem dL_law_238 : decode cL_law 238 = .ok (.iconst 3, 1) := by decide +kernel
theorem dL_law_239 : decode cL_law 239 = .ok (.iadd, 1) := by decide +kernel
theorem dL_law_240 : decode cL_law 240 = .ok (.iaload, 1) := by decide +kernel
theorem dL_law_241 : decode cL_law 241 = .ok (.aload_n 0, 1) := by decide +kernel
theorem dL_law_242 : decode cL_law 242 = .ok (.iload 4, 2) := by decide +kernel
theorem dL_law_244 : decode cL_law 244 = .ok (.iconst 4, 1) := by decide +kernel
theorem dL_law_245 : decode cL_law 245 = .ok (.iadd, 1) := by decide +kernel
theorem dL_law_246 : decode cL_law 246 = .ok (.iaload, 1) := by decide +kernel
theorem dL_law_247 : decode cL_law 247 = .ok (.ifCond .eq 7, 3) := by decide +kernel
theorem dL_law_250 : decode cL_law 250 = .ok (.iconst 1, 1) := by decide +kernel
theorem dL_law_251 : decode cL_law 251 = .ok (.goto 4, 3) := by decide +kernel
theorem dL_law_254 : decode cL_law 254 = .ok (.iconst 0, 1) := by decide +kernel
theorem dL_law_255 : decode cL_law 255 = .ok (.aload_n 3, 1) := by decide +kernel
theorem dL_law_256 : decode cL_law 256 = .ok (.invokestatic 76, 3) := by decide +kernel
theorem dL_law_259 : decode cL_law 259 = .ok (.istore 5, 2) := by decide +kernel
theorem dL_law_261 : decode cL_law 261 = .ok (.aload_n 2, 1) := by decide +kernel
theorem dL_law_262 : decode cL_law 262 = .ok (.aload_n 0, 1) := by decide +kernel
theorem dL_law_263 : decode cL_law 263 = .ok (.iload 4, 2) := by decide +kernel
theorem dL_law_265 : decode cL_law 265 = .ok (.iconst 1, 1) := by decide +kernel
theorem dL_law_266 : decode cL_law 266 = .ok (.iadd, 1) := by decide +kernel
theorem dL_law_267 : decode cL_law 267 = .ok (.iaload, 1) := by decide +kernel
theorem dL_law_268 : decode cL_law 268 = .ok (.aload_n 0, 1) := by decide +kernel
theorem dL_law_269 : decode cL_law 269 = .ok (.iload 4, 2) := by decide +kernel
theorem dL_law_271 : decode cL_law 271 = .ok (.iconst 2, 1) := by decide +kernel
theorem dL_law_272 : decode cL_law 272 = .ok (.iadd, 1) := by decide +kernel
theorem dL_law_273 : decode cL_law 273 = .ok (.iaload, 1) := by decide +kernel
theorem dL_law_274 : decode cL_law 274 = .ok (.aload_n 0, 1) := by decide +kernel
theorem dL_law_275 : decode cL_law 275 = .ok (.iload 4, 2) := by decide +kernel
theorem dL_law_277 : decode cL_law 277 = .ok (.iconst 3, 1) := by decide +kernel
theorem dL_law_278 : decode cL_law 278 = .ok (.iadd, 1) := by decide +kernel
theorem dL_law_279 : decode cL_law 279 = .ok (.iaload, 1) := by decide +kernel
theorem dL_law_280 : decode cL_law 280 = .ok (.aload_n 0, 1) := by decide +kernel
theorem dL_law_281 : decode cL_law 281 = .ok (.iload 4, 2) := by decide +kernel
theorem dL_law_283 : decode cL_law 283 = .ok (.iconst 4, 1) := by decide +kernel
theorem dL_law_284 : decode cL_law 284 = .ok (.iadd, 1) := by decide +kernel
theorem dL_law_285 : decode cL_law 285 = .ok (.iaload, 1) := by decide +kernel
theorem dL_law_286 : decode cL_law 286 = .ok (.ifCond .eq 7, 3) := by decide +kernel
theorem dL_law_289 : decode cL_law 289 = .ok (.iconst 1, 1) := by decide +kernel
theorem dL_law_290 : decode cL_law 290 = .ok (.goto 4, 3) := by decide +kernel
theorem dL_law_293 : decode cL_law 293 = .ok (.iconst 0, 1) := by decide +kernel
theorem dL_law_294 : decode cL_law 294 = .ok (.invokevirtual 81, 3) := by decide +kernel
theorem dL_law_297 : decode cL_law 297 = .ok (.istore 6, 2) := by decide +kernel
theorem dL_law_299 : decode cL_law 299 = .ok (.aload_n 2, 1) := by decide +kernel
theorem dL_law_300 : decode cL_law 300 = .ok (.invokevirtual 82, 3) := by decide +kernel
theorem dL_law_303 : decode cL_law 303 = .ok (.iload 5, 2) := by decide +kernel
theorem dL_law_305 : decode cL_law 305 = .ok (.if_icmp .eq 5, 3) := by decide +kernel
theorem dL_law_308 : decode cL_law 308 = .ok (.iconst 0, 1) := by decide +kernel
theorem dL_law_309 : decode cL_law 309 = .ok (.ireturn, 1) := by decide +kernel
theorem dL_law_310 : decode cL_law 310 = .ok (.iload 5, 2) := by decide +kernel
theorem dL_law_312 : decode cL_law 312 = .ok (.ifCond .ne 15, 3) := by decide +kernel
theorem dL_law_315 : decode cL_law 315 = .ok (.aload_n 3, 1) := by decide +kernel
theorem dL_law_316 : decode cL_law 316 = .ok (.iconst 0, 1) := by decide +kernel
theorem dL_law_317 : decode cL_law 317 = .ok (.laload, 1) := by decide +kernel
theorem dL_law_318 : decode cL_law 318 = .ok (.iload 6, 2) := by decide +kernel
theorem dL_law_320 : decode cL_law 320 = .ok (.i2l, 1) := by decide +kernel
theorem dL_law_321 : decode cL_law 321 = .ok (.lcmp, 1) := by decide +kernel
theorem dL_law_322 : decode cL_law 322 = .ok (.ifCond .eq 5, 3) := by decide +kernel
theorem dL_law_325 : decode cL_law 325 = .ok (.iconst 0, 1) := by decide +kernel
theorem dL_law_326 : decode cL_law 326 = .ok (.ireturn, 1) := by decide +kernel
theorem dL_law_327 : decode cL_law 327 = .ok (.goto 772, 3) := by decide +kernel
theorem dL_law_330 : decode cL_law 330 = .ok (.aload_n 1, 1) := by decide +kernel
theorem dL_law_331 : decode cL_law 331 = .ok (.aload_n 0, 1) := by decide +kernel
theorem dL_law_332 : decode cL_law 332 = .ok (.iload 4, 2) := by decide +kernel
theorem dL_law_334 : decode cL_law 334 = .ok (.iconst 1, 1) := by decide +kernel
theorem dL_law_335 : decode cL_law 335 = .ok (.iadd, 1) := by decide +kernel
theorem dL_law_336 : decode cL_law 336 = .ok (.iaload, 1) := by decide +kernel
theorem dL_law_337 : decode cL_law 337 = .ok (.aload_n 3, 1) := by decide +kernel
theorem dL_law_338 : decode cL_law 338 = .ok (.invokestatic 86, 3) := by decide +kernel
theorem dL_law_341 : decode cL_law 341 = .ok (.istore 5, 2) := by decide +kernel
theorem dL_law_343 : decode cL_law 343 = .ok (.aload_n 2, 1) := by decide +kernel
theorem dL_law_344 : decode cL_law 344 = .ok (.aload_n 0, 1) := by decide +kernel
theorem dL_law_345 : decode cL_law 345 = .ok (.iload 4, 2) := by decide +kernel
theorem dL_law_347 : decode cL_law 347 = .ok (.iconst 1, 1) := by decide +kernel
theorem dL_law_348 : decode cL_law 348 = .ok (.iadd, 1) := by decide +kernel
theorem dL_law_349 : decode cL_law 349 = .ok (.iaload, 1) := by decide +kernel
theorem dL_law_350 : decode cL_law 350 = .ok (.invokevirtual 89, 3) := by decide +kernel
theorem dL_law_353 : decode cL_law 353 = .ok (.istore 6, 2) := by decide +kernel
theorem dL_law_355 : decode cL_law 355 = .ok (.aload_n 2, 1) := by decide +kernel
theorem dL_law_356 : decode cL_law 356 = .ok (.invokevirtual 82, 3) := by decide +kernel
theorem dL_law_359 : decode cL_law 359 = .ok (.iload 5, 2) := by decide +kernel
theorem dL_law_361 : decode cL_law 361 = .ok (.if_icmp .eq 5, 3) := by decide +kernel
theorem dL_law_364 : decode cL_law 364 = .ok (.iconst 0, 1) := by decide +kernel
theorem dL_law_365 : decode cL_law 365 = .ok (.ireturn, 1) := by decide +kernel
theorem dL_law_366 : decode cL_law 366 = .ok (.iload 5, 2) := by decide +kernel
theorem dL_law_368 : decode cL_law 368 = .ok (.ifCond .ne 15, 3) := by decide +kernel
theorem dL_law_371 : decode cL_law 371 = .ok (.aload_n 3, 1) := by decide +kernel
theorem dL_law_372 : decode cL_law 372 = .ok (.iconst 0, 1) := by decide +kernel
theorem dL_law_373 : decode cL_law 373 = .ok (.laload, 1) := by decide +kernel
theorem dL_law_374 : decode cL_law 374 = .ok (.iload 6, 2) := by decide +kernel
theorem dL_law_376 : decode cL_law 376 = .ok (.i2l, 1) := by decide +kernel
theorem dL_law_377 : decode cL_law 377 = .ok (.lcmp, 1) := by decide +kernel
theorem dL_law_378 : decode cL_law 378 = .ok (.ifCond .eq 5, 3) := by decide +kernel
theorem dL_law_381 : decode cL_law 381 = .ok (.iconst 0, 1) := by decide +kernel
theorem dL_law_382 : decode cL_law 382 = .ok (.ireturn, 1) := by decide +kernel
theorem dL_law_383 : decode cL_law 383 = .ok (.goto 716, 3) := by decide +kernel
theorem dL_law_386 : decode cL_law 386 = .ok (.aload_n 1, 1) := by decide +kernel
theorem dL_law_387 : decode cL_law 387 = .ok (.aload_n 0, 1) := by decide +kernel
theorem dL_law_388 : decode cL_law 388 = .ok (.iload 4, 2) := by decide +kernel
theorem dL_law_390 : decode cL_law 390 = .ok (.iconst 1, 1) := by decide +kernel
theorem dL_law_391 : decode cL_law 391 = .ok (.iadd, 1) := by decide +kernel
theorem dL_law_392 : decode cL_law 392 = .ok (.iaload, 1) := by decide +kernel
theorem dL_law_393 : decode cL_law 393 = .ok (.aload_n 3, 1) := by decide +kernel
theorem dL_law_394 : decode cL_law 394 = .ok (.invokestatic 90, 3) := by decide +kernel
theorem dL_law_397 : decode cL_law 397 = .ok (.istore 5, 2) := by decide +kernel
theorem dL_law_399 : decode cL_law 399 = .ok (.aload_n 2, 1) := by decide +kernel
theorem dL_law_400 : decode cL_law 400 = .ok (.aload_n 0, 1) := by decide +kernel
theorem dL_law_401 : decode cL_law 401 = .ok (.iload 4, 2) := by decide +kernel
theorem dL_law_403 : decode cL_law 403 = .ok (.iconst 1, 1) := by decide +kernel
theorem dL_law_404 : decode cL_law 404 = .ok (.iadd, 1) := by decide +kernel
theorem dL_law_405 : decode cL_law 405 = .ok (.iaload, 1) := by decide +kernel
theorem dL_law_406 : decode cL_law 406 = .ok (.invokevirtual 92, 3) := by decide +kernel
theorem dL_law_409 : decode cL_law 409 = .ok (.istore 6, 2) := by decide +kernel
theorem dL_law_411 : decode cL_law 411 = .ok (.aload_n 2, 1) := by decide +kernel
theorem dL_law_412 : decode cL_law 412 = .ok (.invokevirtual 82, 3) := by decide +kernel
theorem dL_law_415 : decode cL_law 415 = .ok (.iload 5, 2) := by decide +kernel
theorem dL_law_417 : decode cL_law 417 = .ok (.if_icmp .eq 5, 3) := by decide +kernel
theorem dL_law_420 : decode cL_law 420 = .ok (.iconst 0, 1) := by decide +kernel
theorem dL_law_421 : decode cL_law 421 = .ok (.ireturn, 1) := by decide +kernel
theorem dL_law_422 : decode cL_law 422 = .ok (.iload 5, 2) := by decide +kernel
theorem dL_law_424 : decode cL_law 424 = .ok (.ifCond .ne 15, 3) := by decide +kernel
theorem dL_law_427 : decode cL_law 427 = .ok (.aload_n 3, 1) := by decide +kernel
theorem dL_law_428 : decode cL_law 428 = .ok (.iconst 0, 1) := by decide +kernel
theorem dL_law_429 : decode cL_law 429 = .ok (.laload, 1) := by decide +kernel
theorem dL_law_430 : decode cL_law 430 = .ok (.iload 6, 2) := by decide +kernel
theorem dL_law_432 : decode cL_law 432 = .ok (.i2l, 1) := by decide +kernel
theorem dL_law_433 : decode cL_law 433 = .ok (.lcmp, 1) := by decide +kernel
theorem dL_law_434 : decode cL_law 434 = .ok (.ifCond .eq 5, 3) := by decide +kernel
theorem dL_law_437 : decode cL_law 437 = .ok (.iconst 0, 1) := by decide +kernel
theorem dL_law_438 : decode cL_law 438 = .ok (.ireturn, 1) := by decide +kernel
theorem dL_law_439 : decode cL_law 439 = .ok (.goto 660, 3) := by decide +kernel
theorem dL_law_442 : decode cL_law 442 = .ok (.aload_n 1, 1) := by decide +kernel
theorem dL_law_443 : decode cL_law 443 = .ok (.invokevirtual 93, 3) := by decide +kernel
theorem dL_law_446 : decode cL_law 446 = .ok (.aload_n 2, 1) := by decide +kernel
theorem dL_law_447 : decode cL_law 447 = .ok (.invokevirtual 96, 3) := by decide +kernel
theorem dL_law_450 : decode cL_law 450 = .ok (.if_icmp .eq 649, 3) := by decide +kernel
theorem dL_law_453 : decode cL_law 453 = .ok (.iconst 0, 1) := by decide +kernel
theorem dL_law_454 : decode cL_law 454 = .ok (.ireturn, 1) := by decide +kernel
theorem dL_law_455 : decode cL_law 455 = .ok (.aload_n 1, 1) := by decide +kernel
theorem dL_law_456 : decode cL_law 456 = .ok (.aload_n 0, 1) := by decide +kernel
theorem dL_law_457 : decode cL_law 457 = .ok (.iload 4, 2) := by decide +kernel
theorem dL_law_459 : decode cL_law 459 = .ok (.iconst 1, 1) := by decide +kernel
theorem dL_law_460 : decode cL_law 460 = .ok (.iadd, 1) := by decide +kernel
theorem dL_law_461 : decode cL_law 461 = .ok (.iaload, 1) := by decide +kernel
theorem dL_law_462 : decode cL_law 462 = .ok (.aload_n 0, 1) := by decide +kernel
theorem dL_law_463 : decode cL_law 463 = .ok (.iload 4, 2) := by decide +kernel
theorem dL_law_465 : decode cL_law 465 = .ok (.iconst 2, 1) := by decide +kernel
theorem dL_law_466 : decode cL_law 466 = .ok (.iadd, 1) := by decide +kernel
theorem dL_law_467 : decode cL_law 467 = .ok (.iaload, 1) := by decide +kernel
theorem dL_law_468 : decode cL_law 468 = .ok (.invokestatic 97, 3) := by decide +kernel
theorem dL_law_471 : decode cL_law 471 = .ok (.istore 5, 2) := by decide +kernel
theorem dL_law_473 : decode cL_law 473 = .ok (.aload_n 2, 1) := by decide +kernel
theorem dL_law_474 : decode cL_law 474 = .ok (.aload_n 0, 1) := by decide +kernel
theorem dL_law_475 : decode cL_law 475 = .ok (.iload 4, 2) := by decide +kernel
theorem dL_law_477 : decode cL_law 477 = .ok (.iconst 1, 1) := by decide +kernel
theorem dL_law_478 : decode cL_law 478 = .ok (.iadd, 1) := by decide +kernel
theorem dL_law_479 : decode cL_law 479 = .ok (.iaload, 1) := by decide +kernel
theorem dL_law_480 : decode cL_law 480 = .ok (.aload_n 0, 1) := by decide +kernel
theorem dL_law_481 : decode cL_law 481 = .ok (.iload 4, 2) := by decide +kernel
theorem dL_law_483 : decode cL_law 483 = .ok (.iconst 2, 1) := by decide +kernel
theorem dL_law_484 : decode cL_law 484 = .ok (.iadd, 1) := by decide +kernel
theorem dL_law_485 : decode cL_law 485 = .ok (.iaload, 1) := by decide +kernel
theorem dL_law_486 : decode cL_law 486 = .ok (.invokevirtual 100, 3) := by decide +kernel
theorem dL_law_489 : decode cL_law 489 = .ok (.aload_n 2, 1) := by decide +kernel
theorem dL_law_490 : decode cL_law 490 = .ok (.invokevirtual 82, 3) := by decide +kernel
theorem dL_law_493 : decode cL_law 493 = .ok (.iload 5, 2) := by decide +kernel
theorem dL_law_495 : decode cL_law 495 = .ok (.if_icmp .eq 5, 3) := by decide +kernel
theorem dL_law_498 : decode cL_law 498 = .ok (.iconst 0, 1) := by decide +kernel
theorem dL_law_499 : decode cL_law 499 = .ok (.ireturn, 1) := by decide +kernel
theorem dL_law_500 : decode cL_law 500 = .ok (.goto 599, 3) := by decide +kernel
theorem dL_law_503 : decode cL_law 503 = .ok (.aload_n 1, 1) := by decide +kernel
theorem dL_law_504 : decode cL_law 504 = .ok (.aload_n 0, 1) := by decide +kernel
theorem dL_law_505 : decode cL_law 505 = .ok (.iload 4, 2) := by decide +kernel
theorem dL_law_507 : decode cL_law 507 = .ok (.iconst 1, 1) := by decide +kernel
theorem dL_law_508 : decode cL_law 508 = .ok (.iadd, 1) := by decide +kernel
theorem dL_law_509 : decode cL_law 509 = .ok (.iaload, 1) := by decide +kernel
theorem dL_law_510 : decode cL_law 510 = .ok (.aload_n 3, 1) := by decide +kernel
theorem dL_law_511 : decode cL_law 511 = .ok (.invokestatic 101, 3) := by decide +kernel
theorem dL_law_514 : decode cL_law 514 = .ok (.istore 5, 2) := by decide +kernel
theorem dL_law_516 : decode cL_law 516 = .ok (.aload_n 2, 1) := by decide +kernel
theorem dL_law_517 : decode cL_law 517 = .ok (.aload_n 0, 1) := by decide +kernel
theorem dL_law_518 : decode cL_law 518 = .ok (.iload 4, 2) := by decide +kernel
theorem dL_law_520 : decode cL_law 520 = .ok (.iconst 1, 1) := by decide +kernel
theorem dL_law_521 : decode cL_law 521 = .ok (.iadd, 1) := by decide +kernel
theorem dL_law_522 : decode cL_law 522 = .ok (.iaload, 1) := by decide +kernel
theorem dL_law_523 : decode cL_law 523 = .ok (.invokevirtual 103, 3) := by decide +kernel
theorem dL_law_526 : decode cL_law 526 = .ok (.istore 6, 2) := by decide +kernel
theorem dL_law_528 : decode cL_law 528 = .ok (.aload_n 2, 1) := by decide +kernel
theorem dL_law_529 : decode cL_law 529 = .ok (.invokevirtual 82, 3) := by decide +kernel
theorem dL_law_532 : decode cL_law 532 = .ok (.iload 5, 2) := by decide +kernel
theorem dL_law_534 : decode cL_law 534 = .ok (.if_icmp .eq 5, 3) := by decide +kernel
theorem dL_law_537 : decode cL_law 537 = .ok (.iconst 0, 1) := by decide +kernel
theorem dL_law_538 : decode cL_law 538 = .ok (.ireturn, 1) := by decide +kernel
theorem dL_law_539 : decode cL_law 539 = .ok (.iload 5, 2) := by decide +kernel
theorem dL_law_541 : decode cL_law 541 = .ok (.ifCond .ne 15, 3) := by decide +kernel
theorem dL_law_544 : decode cL_law 544 = .ok (.aload_n 3, 1) := by decide +kernel
theorem dL_law_545 : decode cL_law 545 = .ok (.iconst 0, 1) := by decide +kernel
theorem dL_law_546 : decode cL_law 546 = .ok (.laload, 1) := by decide +kernel
theorem dL_law_547 : decode cL_law 547 = .ok (.iload 6, 2) := by decide +kernel
theorem dL_law_549 : decode cL_law 549 = .ok (.i2l, 1) := by decide +kernel
theorem dL_law_550 : decode cL_law 550 = .ok (.lcmp, 1) := by decide +kernel
theorem dL_law_551 : decode cL_law 551 = .ok (.ifCond .eq 5, 3) := by decide +kernel
theorem dL_law_554 : decode cL_law 554 = .ok (.iconst 0, 1) := by decide +kernel
theorem dL_law_555 : decode cL_law 555 = .ok (.ireturn, 1) := by decide +kernel
theorem dL_law_556 : decode cL_law 556 = .ok (.goto 543, 3) := by decide +kernel
theorem dL_law_559 : decode cL_law 559 = .ok (.aload_n 1, 1) := by decide +kernel
theorem dL_law_560 : decode cL_law 560 = .ok (.aload_n 0, 1) := by decide +kernel
theorem dL_law_561 : decode cL_law 561 = .ok (.iload 4, 2) := by decide +kernel
theorem dL_law_563 : decode cL_law 563 = .ok (.iconst 1, 1) := by decide +kernel
theorem dL_law_564 : decode cL_law 564 = .ok (.iadd, 1) := by decide +kernel
theorem dL_law_565 : decode cL_law 565 = .ok (.iaload, 1) := by decide +kernel
theorem dL_law_566 : decode cL_law 566 = .ok (.aload_n 0, 1) := by decide +kernel
theorem dL_law_567 : decode cL_law 567 = .ok (.iload 4, 2) := by decide +kernel
theorem dL_law_569 : decode cL_law 569 = .ok (.iconst 2, 1) := by decide +kernel
theorem dL_law_570 : decode cL_law 570 = .ok (.iadd, 1) := by decide +kernel
theorem dL_law_571 : decode cL_law 571 = .ok (.iaload, 1) := by decide +kernel
theorem dL_law_572 : decode cL_law 572 = .ok (.aload_n 3, 1) := by decide +kernel
theorem dL_law_573 : decode cL_law 573 = .ok (.invokestatic 104, 3) := by decide +kernel
theorem dL_law_576 : decode cL_law 576 = .ok (.istore 5, 2) := by decide +kernel
theorem dL_law_578 : decode cL_law 578 = .ok (.aload_n 2, 1) := by decide +kernel
theorem dL_law_579 : decode cL_law 579 = .ok (.aload_n 0, 1) := by decide +kernel
theorem dL_law_580 : decode cL_law 580 = .ok (.iload 4, 2) := by decide +kernel
theorem dL_law_582 : decode cL_law 582 = .ok (.iconst 1, 1) := by decide +kernel
theorem dL_law_583 : decode cL_law 583 = .ok (.iadd, 1) := by decide +kernel
theorem dL_law_584 : decode cL_law 584 = .ok (.iaload, 1) := by decide +kernel
theorem dL_law_585 : decode cL_law 585 = .ok (.aload_n 0, 1) := by decide +kernel
theorem dL_law_586 : decode cL_law 586 = .ok (.iload 4, 2) := by decide +kernel
theorem dL_law_588 : decode cL_law 588 = .ok (.iconst 2, 1) := by decide +kernel
theorem dL_law_589 : decode cL_law 589 = .ok (.iadd, 1) := by decide +kernel
theorem dL_law_590 : decode cL_law 590 = .ok (.iaload, 1) := by decide +kernel
theorem dL_law_591 : decode cL_law 591 = .ok (.invokevirtual 107, 3) := by decide +kernel
theorem dL_law_594 : decode cL_law 594 = .ok (.istore 6, 2) := by decide +kernel
theorem dL_law_596 : decode cL_law 596 = .ok (.aload_n 2, 1) := by decide +kernel
theorem dL_law_597 : decode cL_law 597 = .ok (.invokevirtual 82, 3) := by decide +kernel
theorem dL_law_600 : decode cL_law 600 = .ok (.iload 5, 2) := by decide +kernel
theorem dL_law_602 : decode cL_law 602 = .ok (.if_icmp .eq 5, 3) := by decide +kernel
theorem dL_law_605 : decode cL_law 605 = .ok (.iconst 0, 1) := by decide +kernel
theorem dL_law_606 : decode cL_law 606 = .ok (.ireturn, 1) := by decide +kernel
theorem dL_law_607 : decode cL_law 607 = .ok (.iload 5, 2) := by decide +kernel
theorem dL_law_609 : decode cL_law 609 = .ok (.ifCond .ne 22, 3) := by decide +kernel
theorem dL_law_612 : decode cL_law 612 = .ok (.aload_n 3, 1) := by decide +kernel
theorem dL_law_613 : decode cL_law 613 = .ok (.iconst 0, 1) := by decide +kernel
theorem dL_law_614 : decode cL_law 614 = .ok (.laload, 1) := by decide +kernel
theorem dL_law_615 : decode cL_law 615 = .ok (.iload 6, 2) := by decide +kernel
theorem dL_law_617 : decode cL_law 617 = .ok (.ifCond .eq 7, 3) := by decide +kernel
theorem dL_law_620 : decode cL_law 620 = .ok (.lconst 1, 1) := by decide +kernel
theorem dL_law_621 : decode cL_law 621 = .ok (.goto 4, 3) := by decide +kernel
theorem dL_law_624 : decode cL_law 624 = .ok (.lconst 0, 1) := by decide +kernel
theorem dL_law_625 : decode cL_law 625 = .ok (.lcmp, 1) := by decide +kernel
theorem dL_law_626 : decode cL_law 626 = .ok (.ifCond .eq 5, 3) := by decide +kernel
theorem dL_law_629 : decode cL_law 629 = .ok (.iconst 0, 1) := by decide +kernel
theorem dL_law_630 : decode cL_law 630 = .ok (.ireturn, 1) := by decide +kernel
theorem dL_law_631 : decode cL_law 631 = .ok (.goto 468, 3) := by decide +kernel
theorem dL_law_634 : decode cL_law 634 = .ok (.aload_n 1, 1) := by decide +kernel
theorem dL_law_635 : decode cL_law 635 = .ok (.aload_n 0, 1) := by decide +kernel
theorem dL_law_636 : decode cL_law 636 = .ok (.iload 4, 2) := by decide +kernel
theorem dL_law_638 : decode cL_law 638 = .ok (.iconst 1, 1) := by decide +kernel
theorem dL_law_639 : decode cL_law 639 = .ok (.iadd, 1) := by decide +kernel
theorem dL_law_640 : decode cL_law 640 = .ok (.iaload, 1) := by decide +kernel
theorem dL_law_641 : decode cL_law 641 = .ok (.aload_n 0, 1) := by decide +kernel
theorem dL_law_642 : decode cL_law 642 = .ok (.iload 4, 2) := by decide +kernel
theorem dL_law_644 : decode cL_law 644 = .ok (.iconst 2, 1) := by decide +kernel
theorem dL_law_645 : decode cL_law 645 = .ok (.iadd, 1) := by decide +kernel
theorem dL_law_646 : decode cL_law 646 = .ok (.iaload, 1) := by decide +kernel
theorem dL_law_647 : decode cL_law 647 = .ok (.aload_n 0, 1) := by decide +kernel
theorem dL_law_648 : decode cL_law 648 = .ok (.iload 4, 2) := by decide +kernel
theorem dL_law_650 : decode cL_law 650 = .ok (.iconst 3, 1) := by decide +kernel
theorem dL_law_651 : decode cL_law 651 = .ok (.iadd, 1) := by decide +kernel
theorem dL_law_652 : decode cL_law 652 = .ok (.iaload, 1) := by decide +kernel
theorem dL_law_653 : decode cL_law 653 = .ok (.aload_n 3, 1) := by decide +kernel
theorem dL_law_654 : decode cL_law 654 = .ok (.invokestatic 108, 3) := by decide +kernel
theorem dL_law_657 : decode cL_law 657 = .ok (.istore 5, 2) := by decide +kernel
theorem dL_law_659 : decode cL_law 659 = .ok (.aload_n 2, 1) := by decide +kernel
theorem dL_law_660 : decode cL_law 660 = .ok (.aload_n 0, 1) := by decide +kernel
theorem dL_law_661 : decode cL_law 661 = .ok (.iload 4, 2) := by decide +kernel
theorem dL_law_663 : decode cL_law 663 = .ok (.iconst 1, 1) := by decide +kernel
theorem dL_law_664 : decode cL_law 664 = .ok (.iadd, 1) := by decide +kernel
theorem dL_law_665 : decode cL_law 665 = .ok (.iaload, 1) := by decide +kernel
theorem dL_law_666 : decode cL_law 666 = .ok (.aload_n 0, 1) := by decide +kernel
theorem dL_law_667 : decode cL_law 667 = .ok (.iload 4, 2) := by decide +kernel
theorem dL_law_669 : decode cL_law 669 = .ok (.iconst 2, 1) := by decide +kernel
theorem dL_law_670 : decode cL_law 670 = .ok (.iadd, 1) := by decide +kernel
theorem dL_law_671 : decode cL_law 671 = .ok (.iaload, 1) := by decide +kernel
theorem dL_law_672 : decode cL_law 672 = .ok (.aload_n 0, 1) := by decide +kernel
theorem dL_law_673 : decode cL_law 673 = .ok (.iload 4, 2) := by decide +kernel
theorem dL_law_675 : decode cL_law 675 = .ok (.iconst 3, 1) := by decide +kernel
theorem dL_law_676 : decode cL_law 676 = .ok (.iadd, 1) := by decide +kernel
theorem dL_law_677 : decode cL_law 677 = .ok (.iaload, 1) := by decide +kernel
theorem dL_law_678 : decode cL_law 678 = .ok (.invokevirtual 111, 3) := by decide +kernel
theorem dL_law_681 : decode cL_law 681 = .ok (.istore 6, 2) := by decide +kernel
theorem dL_law_683 : decode cL_law 683 = .ok (.aload_n 2, 1) := by decide +kernel
theorem dL_law_684 : decode cL_law 684 = .ok (.invokevirtual 82, 3) := by decide +kernel
theorem dL_law_687 : decode cL_law 687 = .ok (.iload 5, 2) := by decide +kernel
theorem dL_law_689 : decode cL_law 689 = .ok (.if_icmp .eq 5, 3) := by decide +kernel
theorem dL_law_692 : decode cL_law 692 = .ok (.iconst 0, 1) := by decide +kernel
theorem dL_law_693 : decode cL_law 693 = .ok (.ireturn, 1) := by decide +kernel
theorem dL_law_694 : decode cL_law 694 = .ok (.iload 5, 2) := by decide +kernel
theorem dL_law_696 : decode cL_law 696 = .ok (.ifCond .ne 15, 3) := by decide +kernel
theorem dL_law_699 : decode cL_law 699 = .ok (.aload_n 3, 1) := by decide +kernel
theorem dL_law_700 : decode cL_law 700 = .ok (.iconst 0, 1) := by decide +kernel
theorem dL_law_701 : decode cL_law 701 = .ok (.laload, 1) := by decide +kernel
theorem dL_law_702 : decode cL_law 702 = .ok (.iload 6, 2) := by decide +kernel
theorem dL_law_704 : decode cL_law 704 = .ok (.i2l, 1) := by decide +kernel
theorem dL_law_705 : decode cL_law 705 = .ok (.lcmp, 1) := by decide +kernel
theorem dL_law_706 : decode cL_law 706 = .ok (.ifCond .eq 5, 3) := by decide +kernel
theorem dL_law_709 : decode cL_law 709 = .ok (.iconst 0, 1) := by decide +kernel
theorem dL_law_710 : decode cL_law 710 = .ok (.ireturn, 1) := by decide +kernel
theorem dL_law_711 : decode cL_law 711 = .ok (.goto 388, 3) := by decide +kernel
theorem dL_law_714 : decode cL_law 714 = .ok (.aload_n 1, 1) := by decide +kernel
theorem dL_law_715 : decode cL_law 715 = .ok (.aload_n 0, 1) := by decide +kernel
theorem dL_law_716 : decode cL_law 716 = .ok (.iload 4, 2) := by decide +kernel
theorem dL_law_718 : decode cL_law 718 = .ok (.iconst 1, 1) := by decide +kernel
theorem dL_law_719 : decode cL_law 719 = .ok (.iadd, 1) := by decide +kernel
theorem dL_law_720 : decode cL_law 720 = .ok (.iaload, 1) := by decide +kernel
theorem dL_law_721 : decode cL_law 721 = .ok (.aload_n 0, 1) := by decide +kernel
theorem dL_law_722 : decode cL_law 722 = .ok (.iload 4, 2) := by decide +kernel
theorem dL_law_724 : decode cL_law 724 = .ok (.iconst 2, 1) := by decide +kernel
theorem dL_law_725 : decode cL_law 725 = .ok (.iadd, 1) := by decide +kernel
theorem dL_law_726 : decode cL_law 726 = .ok (.iaload, 1) := by decide +kernel
theorem dL_law_727 : decode cL_law 727 = .ok (.aload_n 3, 1) := by decide +kernel
theorem dL_law_728 : decode cL_law 728 = .ok (.invokestatic 112, 3) := by decide +kernel
theorem dL_law_731 : decode cL_law 731 = .ok (.istore 5, 2) := by decide +kernel
theorem dL_law_733 : decode cL_law 733 = .ok (.aload_n 2, 1) := by decide +kernel
theorem dL_law_734 : decode cL_law 734 = .ok (.aload_n 0, 1) := by decide +kernel
theorem dL_law_735 : decode cL_law 735 = .ok (.iload 4, 2) := by decide +kernel
theorem dL_law_737 : decode cL_law 737 = .ok (.iconst 1, 1) := by decide +kernel
theorem dL_law_738 : decode cL_law 738 = .ok (.iadd, 1) := by decide +kernel
theorem dL_law_739 : decode cL_law 739 = .ok (.iaload, 1) := by decide +kernel
theorem dL_law_740 : decode cL_law 740 = .ok (.aload_n 0, 1) := by decide +kernel
theorem dL_law_741 : decode cL_law 741 = .ok (.iload 4, 2) := by decide +kernel
theorem dL_law_743 : decode cL_law 743 = .ok (.iconst 2, 1) := by decide +kernel
theorem dL_law_744 : decode cL_law 744 = .ok (.iadd, 1) := by decide +kernel
theorem dL_law_745 : decode cL_law 745 = .ok (.iaload, 1) := by decide +kernel
theorem dL_law_746 : decode cL_law 746 = .ok (.invokevirtual 114, 3) := by decide +kernel
theorem dL_law_749 : decode cL_law 749 = .ok (.istore 6, 2) := by decide +kernel
theorem dL_law_751 : decode cL_law 751 = .ok (.aload_n 2, 1) := by decide +kernel
theorem dL_law_752 : decode cL_law 752 = .ok (.invokevirtual 82, 3) := by decide +kernel
theorem dL_law_755 : decode cL_law 755 = .ok (.iload 5, 2) := by decide +kernel
theorem dL_law_757 : decode cL_law 757 = .ok (.if_icmp .eq 5, 3) := by decide +kernel
theorem dL_law_760 : decode cL_law 760 = .ok (.iconst 0, 1) := by decide +kernel
theorem dL_law_761 : decode cL_law 761 = .ok (.ireturn, 1) := by decide +kernel
theorem dL_law_762 : decode cL_law 762 = .ok (.iload 5, 2) := by decide +kernel
theorem dL_law_764 : decode cL_law 764 = .ok (.ifCond .ne 15, 3) := by decide +kernel
theorem dL_law_767 : decode cL_law 767 = .ok (.aload_n 3, 1) := by decide +kernel
theorem dL_law_768 : decode cL_law 768 = .ok (.iconst 0, 1) := by decide +kernel
theorem dL_law_769 : decode cL_law 769 = .ok (.laload, 1) := by decide +kernel
theorem dL_law_770 : decode cL_law 770 = .ok (.iload 6, 2) := by decide +kernel
theorem dL_law_772 : decode cL_law 772 = .ok (.i2l, 1) := by decide +kernel
theorem dL_law_773 : decode cL_law 773 = .ok (.lcmp, 1) := by decide +kernel
theorem dL_law_774 : decode cL_law 774 = .ok (.ifCond .eq 5, 3) := by decide +kernel
theorem dL_law_777 : decode cL_law 777 = .ok (.iconst 0, 1) := by decide +kernel
theorem dL_law_778 : decode cL_law 778 = .ok (.ireturn, 1) := by decide +kernel
theorem dL_law_779 : decode cL_law 779 = .ok (.goto 320, 3) := by decide +kernel
theorem dL_law_782 : decode cL_law 782 = .ok (.aload_n 1, 1) := by decide +kernel
theorem dL_law_783 : decode cL_law 783 = .ok (.aload_n 0, 1) := by decide +kernel
theorem dL_law_784 : decode cL_law 784 = .ok (.iload 4, 2) := by decide +kernel
theorem dL_law_786 : decode cL_law 786 = .ok (.iconst 1, 1) := by decide +kernel
theorem dL_law_787 : decode cL_law 787 = .ok (.iadd, 1) := by decide +kernel
theorem dL_law_788 : decode cL_law 788 = .ok (.iaload, 1) := by decide +kernel
theorem dL_law_789 : decode cL_law 789 = .ok (.aload_n 3, 1) := by decide +kernel
theorem dL_law_790 : decode cL_law 790 = .ok (.invokestatic 115, 3) := by decide +kernel
theorem dL_law_793 : decode cL_law 793 = .ok (.istore 5, 2) := by decide +kernel
theorem dL_law_795 : decode cL_law 795 = .ok (.aload_n 2, 1) := by decide +kernel
theorem dL_law_796 : decode cL_law 796 = .ok (.aload_n 0, 1) := by decide +kernel
theorem dL_law_797 : decode cL_law 797 = .ok (.iload 4, 2) := by decide +kernel
theorem dL_law_799 : decode cL_law 799 = .ok (.iconst 1, 1) := by decide +kernel
theorem dL_law_800 : decode cL_law 800 = .ok (.iadd, 1) := by decide +kernel
theorem dL_law_801 : decode cL_law 801 = .ok (.iaload, 1) := by decide +kernel
theorem dL_law_802 : decode cL_law 802 = .ok (.invokevirtual 117, 3) := by decide +kernel
theorem dL_law_805 : decode cL_law 805 = .ok (.istore 6, 2) := by decide +kernel
theorem dL_law_807 : decode cL_law 807 = .ok (.aload_n 2, 1) := by decide +kernel
theorem dL_law_808 : decode cL_law 808 = .ok (.invokevirtual 82, 3) := by decide +kernel
theorem dL_law_811 : decode cL_law 811 = .ok (.iload 5, 2) := by decide +kernel
theorem dL_law_813 : decode cL_law 813 = .ok (.if_icmp .eq 5, 3) := by decide +kernel
theorem dL_law_816 : decode cL_law 816 = .ok (.iconst 0, 1) := by decide +kernel
theorem dL_law_817 : decode cL_law 817 = .ok (.ireturn, 1) := by decide +kernel
theorem dL_law_818 : decode cL_law 818 = .ok (.iload 5, 2) := by decide +kernel
theorem dL_law_820 : decode cL_law 820 = .ok (.ifCond .ne 15, 3) := by decide +kernel
theorem dL_law_823 : decode cL_law 823 = .ok (.aload_n 3, 1) := by decide +kernel
theorem dL_law_824 : decode cL_law 824 = .ok (.iconst 0, 1) := by decide +kernel
theorem dL_law_825 : decode cL_law 825 = .ok (.laload, 1) := by decide +kernel
theorem dL_law_826 : decode cL_law 826 = .ok (.iload 6, 2) := by decide +kernel
theorem dL_law_828 : decode cL_law 828 = .ok (.i2l, 1) := by decide +kernel
theorem dL_law_829 : decode cL_law 829 = .ok (.lcmp, 1) := by decide +kernel
theorem dL_law_830 : decode cL_law 830 = .ok (.ifCond .eq 5, 3) := by decide +kernel
theorem dL_law_833 : decode cL_law 833 = .ok (.iconst 0, 1) := by decide +kernel
theorem dL_law_834 : decode cL_law 834 = .ok (.ireturn, 1) := by decide +kernel
theorem dL_law_835 : decode cL_law 835 = .ok (.goto 264, 3) := by decide +kernel
theorem dL_law_838 : decode cL_law 838 = .ok (.aload_n 1, 1) := by decide +kernel
theorem dL_law_839 : decode cL_law 839 = .ok (.aload_n 0, 1) := by decide +kernel
theorem dL_law_840 : decode cL_law 840 = .ok (.iload 4, 2) := by decide +kernel
theorem dL_law_842 : decode cL_law 842 = .ok (.iconst 1, 1) := by decide +kernel
theorem dL_law_843 : decode cL_law 843 = .ok (.iadd, 1) := by decide +kernel
theorem dL_law_844 : decode cL_law 844 = .ok (.iaload, 1) := by decide +kernel
theorem dL_law_845 : decode cL_law 845 = .ok (.aload_n 3, 1) := by decide +kernel
theorem dL_law_846 : decode cL_law 846 = .ok (.invokestatic 118, 3) := by decide +kernel
theorem dL_law_849 : decode cL_law 849 = .ok (.istore 5, 2) := by decide +kernel
theorem dL_law_851 : decode cL_law 851 = .ok (.aload_n 2, 1) := by decide +kernel
theorem dL_law_852 : decode cL_law 852 = .ok (.aload_n 0, 1) := by decide +kernel
theorem dL_law_853 : decode cL_law 853 = .ok (.iload 4, 2) := by decide +kernel
theorem dL_law_855 : decode cL_law 855 = .ok (.iconst 1, 1) := by decide +kernel
theorem dL_law_856 : decode cL_law 856 = .ok (.iadd, 1) := by decide +kernel
theorem dL_law_857 : decode cL_law 857 = .ok (.iaload, 1) := by decide +kernel
theorem dL_law_858 : decode cL_law 858 = .ok (.invokevirtual 120, 3) := by decide +kernel
theorem dL_law_861 : decode cL_law 861 = .ok (.istore 6, 2) := by decide +kernel
theorem dL_law_863 : decode cL_law 863 = .ok (.aload_n 2, 1) := by decide +kernel
theorem dL_law_864 : decode cL_law 864 = .ok (.invokevirtual 82, 3) := by decide +kernel
theorem dL_law_867 : decode cL_law 867 = .ok (.iload 5, 2) := by decide +kernel
theorem dL_law_869 : decode cL_law 869 = .ok (.if_icmp .eq 5, 3) := by decide +kernel
theorem dL_law_872 : decode cL_law 872 = .ok (.iconst 0, 1) := by decide +kernel
theorem dL_law_873 : decode cL_law 873 = .ok (.ireturn, 1) := by decide +kernel
theorem dL_law_874 : decode cL_law 874 = .ok (.iload 5, 2) := by decide +kernel
theorem dL_law_876 : decode cL_law 876 = .ok (.ifCond .ne 15, 3) := by decide +kernel
theorem dL_law_879 : decode cL_law 879 = .ok (.aload_n 3, 1) := by decide +kernel
theorem dL_law_880 : decode cL_law 880 = .ok (.iconst 0, 1) := by decide +kernel
theorem dL_law_881 : decode cL_law 881 = .ok (.laload, 1) := by decide +kernel
theorem dL_law_882 : decode cL_law 882 = .ok (.iload 6, 2) := by decide +kernel
theorem dL_law_884 : decode cL_law 884 = .ok (.i2l, 1) := by decide +kernel
theorem dL_law_885 : decode cL_law 885 = .ok (.lcmp, 1) := by decide +kernel
theorem dL_law_886 : decode cL_law 886 = .ok (.ifCond .eq 5, 3) := by decide +kernel
theorem dL_law_889 : decode cL_law 889 = .ok (.iconst 0, 1) := by decide +kernel
theorem dL_law_890 : decode cL_law 890 = .ok (.ireturn, 1) := by decide +kernel
theorem dL_law_891 : decode cL_law 891 = .ok (.goto 208, 3) := by decide +kernel
theorem dL_law_894 : decode cL_law 894 = .ok (.aload_n 1, 1) := by decide +kernel
theorem dL_law_895 : decode cL_law 895 = .ok (.aload_n 0, 1) := by decide +kernel
theorem dL_law_896 : decode cL_law 896 = .ok (.iload 4, 2) := by decide +kernel
theorem dL_law_898 : decode cL_law 898 = .ok (.iconst 1, 1) := by decide +kernel
theorem dL_law_899 : decode cL_law 899 = .ok (.iadd, 1) := by decide +kernel
theorem dL_law_900 : decode cL_law 900 = .ok (.iaload, 1) := by decide +kernel
theorem dL_law_901 : decode cL_law 901 = .ok (.aload_n 3, 1) := by decide +kernel
theorem dL_law_902 : decode cL_law 902 = .ok (.invokestatic 121, 3) := by decide +kernel
theorem dL_law_905 : decode cL_law 905 = .ok (.istore 5, 2) := by decide +kernel
theorem dL_law_907 : decode cL_law 907 = .ok (.aload_n 2, 1) := by decide +kernel
theorem dL_law_908 : decode cL_law 908 = .ok (.aload_n 0, 1) := by decide +kernel
theorem dL_law_909 : decode cL_law 909 = .ok (.iload 4, 2) := by decide +kernel
theorem dL_law_911 : decode cL_law 911 = .ok (.iconst 1, 1) := by decide +kernel
theorem dL_law_912 : decode cL_law 912 = .ok (.iadd, 1) := by decide +kernel
theorem dL_law_913 : decode cL_law 913 = .ok (.iaload, 1) := by decide +kernel
theorem dL_law_914 : decode cL_law 914 = .ok (.invokevirtual 123, 3) := by decide +kernel
theorem dL_law_917 : decode cL_law 917 = .ok (.istore 6, 2) := by decide +kernel
theorem dL_law_919 : decode cL_law 919 = .ok (.aload_n 2, 1) := by decide +kernel
theorem dL_law_920 : decode cL_law 920 = .ok (.invokevirtual 82, 3) := by decide +kernel
theorem dL_law_923 : decode cL_law 923 = .ok (.iload 5, 2) := by decide +kernel
theorem dL_law_925 : decode cL_law 925 = .ok (.if_icmp .eq 5, 3) := by decide +kernel
theorem dL_law_928 : decode cL_law 928 = .ok (.iconst 0, 1) := by decide +kernel
theorem dL_law_929 : decode cL_law 929 = .ok (.ireturn, 1) := by decide +kernel
theorem dL_law_930 : decode cL_law 930 = .ok (.iload 5, 2) := by decide +kernel
theorem dL_law_932 : decode cL_law 932 = .ok (.ifCond .ne 15, 3) := by decide +kernel
theorem dL_law_935 : decode cL_law 935 = .ok (.aload_n 3, 1) := by decide +kernel
theorem dL_law_936 : decode cL_law 936 = .ok (.iconst 0, 1) := by decide +kernel
theorem dL_law_937 : decode cL_law 937 = .ok (.laload, 1) := by decide +kernel
theorem dL_law_938 : decode cL_law 938 = .ok (.iload 6, 2) := by decide +kernel
theorem dL_law_940 : decode cL_law 940 = .ok (.i2l, 1) := by decide +kernel
theorem dL_law_941 : decode cL_law 941 = .ok (.lcmp, 1) := by decide +kernel
theorem dL_law_942 : decode cL_law 942 = .ok (.ifCond .eq 5, 3) := by decide +kernel
theorem dL_law_945 : decode cL_law 945 = .ok (.iconst 0, 1) := by decide +kernel
theorem dL_law_946 : decode cL_law 946 = .ok (.ireturn, 1) := by decide +kernel
theorem dL_law_947 : decode cL_law 947 = .ok (.goto 152, 3) := by decide +kernel
theorem dL_law_950 : decode cL_law 950 = .ok (.aload_n 1, 1) := by decide +kernel
theorem dL_law_951 : decode cL_law 951 = .ok (.aload_n 0, 1) := by decide +kernel
theorem dL_law_952 : decode cL_law 952 = .ok (.iload 4, 2) := by decide +kernel
theorem dL_law_954 : decode cL_law 954 = .ok (.iconst 1, 1) := by decide +kernel
theorem dL_law_955 : decode cL_law 955 = .ok (.iadd, 1) := by decide +kernel
theorem dL_law_956 : decode cL_law 956 = .ok (.iaload, 1) := by decide +kernel
theorem dL_law_957 : decode cL_law 957 = .ok (.aload_n 0, 1) := by decide +kernel
theorem dL_law_958 : decode cL_law 958 = .ok (.iload 4, 2) := by decide +kernel
theorem dL_law_960 : decode cL_law 960 = .ok (.iconst 2, 1) := by decide +kernel
theorem dL_law_961 : decode cL_law 961 = .ok (.iadd, 1) := by decide +kernel
theorem dL_law_962 : decode cL_law 962 = .ok (.iaload, 1) := by decide +kernel
theorem dL_law_963 : decode cL_law 963 = .ok (.aload_n 3, 1) := by decide +kernel
theorem dL_law_964 : decode cL_law 964 = .ok (.invokestatic 124, 3) := by decide +kernel
theorem dL_law_967 : decode cL_law 967 = .ok (.istore 5, 2) := by decide +kernel
theorem dL_law_969 : decode cL_law 969 = .ok (.aload_n 2, 1) := by decide +kernel
theorem dL_law_970 : decode cL_law 970 = .ok (.aload_n 0, 1) := by decide +kernel
theorem dL_law_971 : decode cL_law 971 = .ok (.iload 4, 2) := by decide +kernel
theorem dL_law_973 : decode cL_law 973 = .ok (.iconst 1, 1) := by decide +kernel
theorem dL_law_974 : decode cL_law 974 = .ok (.iadd, 1) := by decide +kernel
theorem dL_law_975 : decode cL_law 975 = .ok (.iaload, 1) := by decide +kernel
theorem dL_law_976 : decode cL_law 976 = .ok (.aload_n 0, 1) := by decide +kernel
theorem dL_law_977 : decode cL_law 977 = .ok (.iload 4, 2) := by decide +kernel
theorem dL_law_979 : decode cL_law 979 = .ok (.iconst 2, 1) := by decide +kernel
theorem dL_law_980 : decode cL_law 980 = .ok (.iadd, 1) := by decide +kernel
theorem dL_law_981 : decode cL_law 981 = .ok (.iaload, 1) := by decide +kernel
theorem dL_law_982 : decode cL_law 982 = .ok (.invokevirtual 126, 3) := by decide +kernel
theorem dL_law_985 : decode cL_law 985 = .ok (.istore 6, 2) := by decide +kernel
theorem dL_law_987 : decode cL_law 987 = .ok (.aload_n 2, 1) := by decide +kernel
theorem dL_law_988 : decode cL_law 988 = .ok (.invokevirtual 82, 3) := by decide +kernel
theorem dL_law_991 : decode cL_law 991 = .ok (.iload 5, 2) := by decide +kernel
theorem dL_law_993 : decode cL_law 993 = .ok (.if_icmp .eq 5, 3) := by decide +kernel
theorem dL_law_996 : decode cL_law 996 = .ok (.iconst 0, 1) := by decide +kernel
theorem dL_law_997 : decode cL_law 997 = .ok (.ireturn, 1) := by decide +kernel
theorem dL_law_998 : decode cL_law 998 = .ok (.iload 5, 2) := by decide +kernel
theorem dL_law_1000 : decode cL_law 1000 = .ok (.ifCond .ne 15, 3) := by decide +kernel
theorem dL_law_1003 : decode cL_law 1003 = .ok (.aload_n 3, 1) := by decide +kernel
theorem dL_law_1004 : decode cL_law 1004 = .ok (.iconst 0, 1) := by decide +kernel
theorem dL_law_1005 : decode cL_law 1005 = .ok (.laload, 1) := by decide +kernel
theorem dL_law_1006 : decode cL_law 1006 = .ok (.iload 6, 2) := by decide +kernel
theorem dL_law_1008 : decode cL_law 1008 = .ok (.i2l, 1) := by decide +kernel
theorem dL_law_1009 : decode cL_law 1009 = .ok (.lcmp, 1) := by decide +kernel
theorem dL_law_1010 : decode cL_law 1010 = .ok (.ifCond .eq 5, 3) := by decide +kernel
theorem dL_law_1013 : decode cL_law 1013 = .ok (.iconst 0, 1) := by decide +kernel
theorem dL_law_1014 : decode cL_law 1014 = .ok (.ireturn, 1) := by decide +kernel
theorem dL_law_1015 : decode cL_law 1015 = .ok (.goto 84, 3) := by decide +kernel
theorem dL_law_1018 : decode cL_law 1018 = .ok (.aload_n 1, 1) := by decide +kernel
theorem dL_law_1019 : decode cL_law 1019 = .ok (.aload_n 0, 1) := by decide +kernel
theorem dL_law_1020 : decode cL_law 1020 = .ok (.iload 4, 2) := by decide +kernel
theorem dL_law_1022 : decode cL_law 1022 = .ok (.iconst 1, 1) := by decide +kernel
theorem dL_law_1023 : decode cL_law 1023 = .ok (.iadd, 1) := by decide +kernel
theorem dL_law_1024 : decode cL_law 1024 = .ok (.iaload, 1) := by decide +kernel
theorem dL_law_1025 : decode cL_law 1025 = .ok (.aload_n 3, 1) := by decide +kernel
theorem dL_law_1026 : decode cL_law 1026 = .ok (.invokestatic 127, 3) := by decide +kernel
theorem dL_law_1029 : decode cL_law 1029 = .ok (.istore 5, 2) := by decide +kernel
theorem dL_law_1031 : decode cL_law 1031 = .ok (.aload_n 2, 1) := by decide +kernel
theorem dL_law_1032 : decode cL_law 1032 = .ok (.aload_n 0, 1) := by decide +kernel
theorem dL_law_1033 : decode cL_law 1033 = .ok (.iload 4, 2) := by decide +kernel
theorem dL_law_1035 : decode cL_law 1035 = .ok (.iconst 1, 1) := by decide +kernel
theorem dL_law_1036 : decode cL_law 1036 = .ok (.iadd, 1) := by decide +kernel
theorem dL_law_1037 : decode cL_law 1037 = .ok (.iaload, 1) := by decide +kernel
theorem dL_law_1038 : decode cL_law 1038 = .ok (.invokevirtual 129, 3) := by decide +kernel
theorem dL_law_1041 : decode cL_law 1041 = .ok (.istore 6, 2) := by decide +kernel
theorem dL_law_1043 : decode cL_law 1043 = .ok (.aload_n 2, 1) := by decide +kernel
theorem dL_law_1044 : decode cL_law 1044 = .ok (.invokevirtual 82, 3) := by decide +kernel
theorem dL_law_1047 : decode cL_law 1047 = .ok (.iload 5, 2) := by decide +kernel
theorem dL_law_1049 : decode cL_law 1049 = .ok (.if_icmp .eq 5, 3) := by decide +kernel
theorem dL_law_1052 : decode cL_law 1052 = .ok (.iconst 0, 1) := by decide +kernel
theorem dL_law_1053 : decode cL_law 1053 = .ok (.ireturn, 1) := by decide +kernel
theorem dL_law_1054 : decode cL_law 1054 = .ok (.iload 5, 2) := by decide +kernel
theorem dL_law_1056 : decode cL_law 1056 = .ok (.ifCond .ne 15, 3) := by decide +kernel
theorem dL_law_1059 : decode cL_law 1059 = .ok (.aload_n 3, 1) := by decide +kernel
theorem dL_law_1060 : decode cL_law 1060 = .ok (.iconst 0, 1) := by decide +kernel
theorem dL_law_1061 : decode cL_law 1061 = .ok (.laload, 1) := by decide +kernel
theorem dL_law_1062 : decode cL_law 1062 = .ok (.iload 6, 2) := by decide +kernel
theorem dL_law_1064 : decode cL_law 1064 = .ok (.i2l, 1) := by decide +kernel
theorem dL_law_1065 : decode cL_law 1065 = .ok (.lcmp, 1) := by decide +kernel
theorem dL_law_1066 : decode cL_law 1066 = .ok (.ifCond .eq 5, 3) := by decide +kernel
theorem dL_law_1069 : decode cL_law 1069 = .ok (.iconst 0, 1) := by decide +kernel
theorem dL_law_1070 : decode cL_law 1070 = .ok (.ireturn, 1) := by decide +kernel
theorem dL_law_1071 : decode cL_law 1071 = .ok (.goto 28, 3) := by decide +kernel
theorem dL_law_1074 : decode cL_law 1074 = .ok (.aload_n 1, 1) := by decide +kernel
theorem dL_law_1075 : decode cL_law 1075 = .ok (.aload_n 0, 1) := by decide +kernel
theorem dL_law_1076 : decode cL_law 1076 = .ok (.iload 4, 2) := by decide +kernel
theorem dL_law_1078 : decode cL_law 1078 = .ok (.iconst 1, 1) := by decide +kernel
theorem dL_law_1079 : decode cL_law 1079 = .ok (.iadd, 1) := by decide +kernel
theorem dL_law_1080 : decode cL_law 1080 = .ok (.iaload, 1) := by decide +kernel
theorem dL_law_1081 : decode cL_law 1081 = .ok (.invokevirtual 130, 3) := by decide +kernel
theorem dL_law_1084 : decode cL_law 1084 = .ok (.aload_n 2, 1) := by decide +kernel
theorem dL_law_1085 : decode cL_law 1085 = .ok (.aload_n 0, 1) := by decide +kernel
theorem dL_law_1086 : decode cL_law 1086 = .ok (.iload 4, 2) := by decide +kernel
theorem dL_law_1088 : decode cL_law 1088 = .ok (.iconst 1, 1) := by decide +kernel
theorem dL_law_1089 : decode cL_law 1089 = .ok (.iadd, 1) := by decide +kernel
theorem dL_law_1090 : decode cL_law 1090 = .ok (.iaload, 1) := by decide +kernel
theorem dL_law_1091 : decode cL_law 1091 = .ok (.invokevirtual 133, 3) := by decide +kernel
theorem dL_law_1094 : decode cL_law 1094 = .ok (.if_icmp .eq 5, 3) := by decide +kernel
theorem dL_law_1097 : decode cL_law 1097 = .ok (.iconst 0, 1) := by decide +kernel
theorem dL_law_1098 : decode cL_law 1098 = .ok (.ireturn, 1) := by decide +kernel
theorem dL_law_1099 : decode cL_law 1099 = .ok (.iinc 4 6, 3) := by decide +kernel
theorem dL_law_1102 : decode cL_law 1102 = .ok (.goto (-1079), 3) := by decide +kernel
theorem dL_law_1105 : decode cL_law 1105 = .ok (.iconst 1, 1) := by decide +kernel
theorem dL_law_1106 : decode cL_law 1106 = .ok (.ireturn, 1) := by decide +kernel
theorem dJ6_bitCount_0f7a4_0 : decode cJ6_bitCount_0f7a4 0 = .ok (.iload_n 0, 1) := by decide +kernel
theorem dJ6_bitCount_0f7a4_1 : decode cJ6_bitCount_0f7a4 1 = .ok (.iload_n 0, 1) := by decide +kernel
theorem dJ6_bitCount_0f7a4_2 : decode cJ6_bitCount_0f7a4 2 = .ok (.iconst 1, 1) := by decide +kernel
theorem dJ6_bitCount_0f7a4_3 : decode cJ6_bitCount_0f7a4 3 = .ok (.iushr, 1) := by decide +kernel
theorem dJ6_bitCount_0f7a4_4 : decode cJ6_bitCount_0f7a4 4 = .ok (.ldc_w 265, 3) := by decide +kernel
theorem dJ6_bitCount_0f7a4_7 : decode cJ6_bitCount_0f7a4 7 = .ok (.iand, 1) := by decide +kernel
theorem dJ6_bitCount_0f7a4_8 : decode cJ6_bitCount_0f7a4 8 = .ok (.isub, 1) := by decide +kernel
theorem dJ6_bitCount_0f7a4_9 : decode cJ6_bitCount_0f7a4 9 = .ok (.istore_n 0, 1) := by decide +kernel
theorem dJ6_bitCount_0f7a4_10 : decode cJ6_bitCount_0f7a4 10 = .ok (.iload_n 0, 1) := by decide +kernel
theorem dJ6_bitCount_0f7a4_11 : decode cJ6_bitCount_0f7a4 11 = .ok (.ldc_w 266, 3) := by decide +kernel
theorem dJ6_bitCount_0f7a4_14 : decode cJ6_bitCount_0f7a4 14 = .ok (.iand, 1) := by decide +kernel
theorem dJ6_bitCount_0f7a4_15 : decode cJ6_bitCount_0f7a4 15 = .ok (.iload_n 0, 1) := by decide +kernel
theorem dJ6_bitCount_0f7a4_16 : decode cJ6_bitCount_0f7a4 16 = .ok (.iconst 2, 1) := by decide +kernel
theorem dJ6_bitCount_0f7a4_17 : decode cJ6_bitCount_0f7a4 17 = .ok (.iushr, 1) := by decide +kernel
theorem dJ6_bitCount_0f7a4_18 : decode cJ6_bitCount_0f7a4 18 = .ok (.ldc_w 266, 3) := by decide +kernel
theorem dJ6_bitCount_0f7a4_21 : decode cJ6_bitCount_0f7a4 21 = .ok (.iand, 1) := by decide +kernel
theorem dJ6_bitCount_0f7a4_22 : decode cJ6_bitCount_0f7a4 22 = .ok (.iadd, 1) := by decide +kernel
theorem dJ6_bitCount_0f7a4_23 : decode cJ6_bitCount_0f7a4 23 = .ok (.istore_n 0, 1) := by decide +kernel
theorem dJ6_bitCount_0f7a4_24 : decode cJ6_bitCount_0f7a4 24 = .ok (.iload_n 0, 1) := by decide +kernel
theorem dJ6_bitCount_0f7a4_25 : decode cJ6_bitCount_0f7a4 25 = .ok (.iload_n 0, 1) := by decide +kernel
theorem dJ6_bitCount_0f7a4_26 : decode cJ6_bitCount_0f7a4 26 = .ok (.iconst 4, 1) := by decide +kernel
theorem dJ6_bitCount_0f7a4_27 : decode cJ6_bitCount_0f7a4 27 = .ok (.iushr, 1) := by decide +kernel
theorem dJ6_bitCount_0f7a4_28 : decode cJ6_bitCount_0f7a4 28 = .ok (.iadd, 1) := by decide +kernel
theorem dJ6_bitCount_0f7a4_29 : decode cJ6_bitCount_0f7a4 29 = .ok (.ldc_w 267, 3) := by decide +kernel
theorem dJ6_bitCount_0f7a4_32 : decode cJ6_bitCount_0f7a4 32 = .ok (.iand, 1) := by decide +kernel
theorem dJ6_bitCount_0f7a4_33 : decode cJ6_bitCount_0f7a4 33 = .ok (.istore_n 0, 1) := by decide +kernel
theorem dJ6_bitCount_0f7a4_34 : decode cJ6_bitCount_0f7a4 34 = .ok (.iload_n 0, 1) := by decide +kernel
theorem dJ6_bitCount_0f7a4_35 : decode cJ6_bitCount_0f7a4 35 = .ok (.iload_n 0, 1) := by decide +kernel
theorem dJ6_bitCount_0f7a4_36 : decode cJ6_bitCount_0f7a4 36 = .ok (.bipush 8, 2) := by decide +kernel
theorem dJ6_bitCount_0f7a4_38 : decode cJ6_bitCount_0f7a4 38 = .ok (.iushr, 1) := by decide +kernel
theorem dJ6_bitCount_0f7a4_39 : decode cJ6_bitCount_0f7a4 39 = .ok (.iadd, 1) := by decide +kernel
theorem dJ6_bitCount_0f7a4_40 : decode cJ6_bitCount_0f7a4 40 = .ok (.istore_n 0, 1) := by decide +kernel
theorem dJ6_bitCount_0f7a4_41 : decode cJ6_bitCount_0f7a4 41 = .ok (.iload_n 0, 1) := by decide +kernel
theorem dJ6_bitCount_0f7a4_42 : decode cJ6_bitCount_0f7a4 42 = .ok (.iload_n 0, 1) := by decide +kernel
theorem dJ6_bitCount_0f7a4_43 : decode cJ6_bitCount_0f7a4 43 = .ok (.bipush 16, 2) := by decide +kernel
theorem dJ6_bitCount_0f7a4_45 : decode cJ6_bitCount_0f7a4 45 = .ok (.iushr, 1) := by decide +kernel
theorem dJ6_bitCount_0f7a4_46 : decode cJ6_bitCount_0f7a4 46 = .ok (.iadd, 1) := by decide +kernel
theorem dJ6_bitCount_0f7a4_47 : decode cJ6_bitCount_0f7a4 47 = .ok (.istore_n 0, 1) := by decide +kernel
theorem dJ6_bitCount_0f7a4_48 : decode cJ6_bitCount_0f7a4 48 = .ok (.iload_n 0, 1) := by decide +kernel
theorem dJ6_bitCount_0f7a4_49 : decode cJ6_bitCount_0f7a4 49 = .ok (.bipush 63, 2) := by decide +kernel
theorem dJ6_bitCount_0f7a4_51 : decode cJ6_bitCount_0f7a4 51 = .ok (.iand, 1) := by decide +kernel
theorem dJ6_bitCount_0f7a4_52 : decode cJ6_bitCount_0f7a4 52 = .ok (.ireturn, 1) := by decide +kernel
theorem dJ9_min_7cf53_0 : decode cJ9_min_7cf53 0 = .ok (.iload_n 0, 1) := by decide +kernel
theorem dJ9_min_7cf53_1 : decode cJ9_min_7cf53 1 = .ok (.iload_n 1, 1) := by decide +kernel
theorem dJ9_min_7cf53_2 : decode cJ9_min_7cf53 2 = .ok (.if_icmp .gt 7, 3) := by decide +kernel
theorem dJ9_min_7cf53_5 : decode cJ9_min_7cf53 5 = .ok (.iload_n 0, 1) := by decide +kernel
theorem dJ9_min_7cf53_6 : decode cJ9_min_7cf53 6 = .ok (.goto 4, 3) := by decide +kernel
theorem dJ9_min_7cf53_9 : decode cJ9_min_7cf53 9 = .ok (.iload_n 1, 1) := by decide +kernel
theorem dJ9_min_7cf53_10 : decode cJ9_min_7cf53 10 = .ok (.ireturn, 1) := by decide +kernel
theorem dJ0_length_8abf5_0 : decode cJ0_length_8abf5 0 = .ok (.aload_n 0, 1) := by decide +kernel
theorem dJ0_length_8abf5_1 : decode cJ0_length_8abf5 1 = .ok (.getfield 9, 3) := by decide +kernel
theorem dJ0_length_8abf5_4 : decode cJ0_length_8abf5 4 = .ok (.arraylength, 1) := by decide +kernel
theorem dJ0_length_8abf5_5 : decode cJ0_length_8abf5 5 = .ok (.aload_n 0, 1) := by decide +kernel
theorem dJ0_length_8abf5_6 : decode cJ0_length_8abf5 6 = .ok (.invokevirtual 335, 3) := by decide +kernel
theorem dJ0_length_8abf5_9 : decode cJ0_length_8abf5 9 = .ok (.ishr, 1) := by decide +kernel
theorem dJ0_length_8abf5_10 : decode cJ0_length_8abf5 10 = .ok (.ireturn, 1) := by decide +kernel
theorem dJ0_charAt_5068e_0 : decode cJ0_charAt_5068e 0 = .ok (.aload_n 0, 1) := by decide +kernel
theorem dJ0_charAt_5068e_1 : decode cJ0_charAt_5068e 1 = .ok (.invokevirtual 492, 3) := by decide +kernel
theorem dJ0_charAt_5068e_4 : decode cJ0_charAt_5068e 4 = .ok (.ifCond .eq 12, 3) := by decide +kernel
theorem dJ0_charAt_5068e_7 : decode cJ0_charAt_5068e 7 = .ok (.aload_n 0, 1) := by decide +kernel
theorem dJ0_charAt_5068e_8 : decode cJ0_charAt_5068e 8 = .ok (.getfield 9, 3) := by decide +kernel
theorem dJ0_charAt_5068e_11 : decode cJ0_charAt_5068e 11 = .ok (.iload_n 1, 1) := by decide +kernel
theorem dJ0_charAt_5068e_12 : decode cJ0_charAt_5068e 12 = .ok (.invokestatic 495, 3) := by decide +kernel
theorem dJ0_charAt_5068e_15 : decode cJ0_charAt_5068e 15 = .ok (.ireturn, 1) := by decide +kernel
theorem dJ0_charAt_5068e_16 : decode cJ0_charAt_5068e 16 = .ok (.aload_n 0, 1) := by decide +kernel
theorem dJ0_charAt_5068e_17 : decode cJ0_charAt_5068e 17 = .ok (.getfield 9, 3) := by decide +kernel
theorem dJ0_charAt_5068e_20 : decode cJ0_charAt_5068e 20 = .ok (.iload_n 1, 1) := by decide +kernel
theorem dJ0_charAt_5068e_21 : decode cJ0_charAt_5068e 21 = .ok (.invokestatic 498, 3) := by decide +kernel
theorem dJ0_charAt_5068e_24 : decode cJ0_charAt_5068e 24 = .ok (.ireturn, 1) := by decide +kernel
theorem dJ0_coder_7d493_0 : decode cJ0_coder_7d493 0 = .ok (.getstatic 38, 3) := by decide +kernel
theorem dJ0_coder_7d493_3 : decode cJ0_coder_7d493 3 = .ok (.ifCond .eq 10, 3) := by decide +kernel
theorem dJ0_coder_7d493_6 : decode cJ0_coder_7d493 6 = .ok (.aload_n 0, 1) := by decide +kernel
theorem dJ0_coder_7d493_7 : decode cJ0_coder_7d493 7 = .ok (.getfield 15, 3) := by decide +kernel
theorem dJ0_coder_7d493_10 : decode cJ0_coder_7d493 10 = .ok (.goto 4, 3) := by decide +kernel
theorem dJ0_coder_7d493_13 : decode cJ0_coder_7d493 13 = .ok (.iconst 1, 1) := by decide +kernel
theorem dJ0_coder_7d493_14 : decode cJ0_coder_7d493 14 = .ok (.ireturn, 1) := by decide +kernel
theorem dJ0_isLatin1_aae02_0 : decode cJ0_isLatin1_aae02 0 = .ok (.getstatic 38, 3) := by decide +kernel
theorem dJ0_isLatin1_aae02_3 : decode cJ0_isLatin1_aae02 3 = .ok (.ifCond .eq 14, 3) := by decide +kernel
theorem dJ0_isLatin1_aae02_6 : decode cJ0_isLatin1_aae02 6 = .ok (.aload_n 0, 1) := by decide +kernel
theorem dJ0_isLatin1_aae02_7 : decode cJ0_isLatin1_aae02 7 = .ok (.getfield 15, 3) := by decide +kernel
theorem dJ0_isLatin1_aae02_10 : decode cJ0_isLatin1_aae02 10 = .ok (.ifCond .ne 7, 3) := by decide +kernel
theorem dJ0_isLatin1_aae02_13 : decode cJ0_isLatin1_aae02 13 = .ok (.iconst 1, 1) := by decide +kernel
theorem dJ0_isLatin1_aae02_14 : decode cJ0_isLatin1_aae02 14 = .ok (.goto 4, 3) := by decide +kernel
theorem dJ0_isLatin1_aae02_17 : decode cJ0_isLatin1_aae02 17 = .ok (.iconst 0, 1) := by decide +kernel
theorem dJ0_isLatin1_aae02_18 : decode cJ0_isLatin1_aae02 18 = .ok (.ireturn, 1) := by decide +kernel
theorem dJ0_checkIndex_df160_0 : decode cJ0_checkIndex_df160 0 = .ok (.iload_n 0, 1) := by decide +kernel
theorem dJ0_checkIndex_df160_1 : decode cJ0_checkIndex_df160 1 = .ok (.iload_n 1, 1) := by decide +kernel
theorem dJ0_checkIndex_df160_2 : decode cJ0_checkIndex_df160 2 = .ok (.getstatic 1053, 3) := by decide +kernel
theorem dJ0_checkIndex_df160_5 : decode cJ0_checkIndex_df160 5 = .ok (.invokestatic 1059, 3) := by decide +kernel
theorem dJ0_checkIndex_df160_8 : decode cJ0_checkIndex_df160 8 = .ok (.pop, 1) := by decide +kernel
theorem dJ0_checkIndex_df160_9 : decode cJ0_checkIndex_df160 9 = .ok (.return_, 1) := by decide +kernel
theorem dJ1_charAt_3b067_0 : decode cJ1_charAt_3b067 0 = .ok (.iload_n 1, 1) := by decide +kernel
theorem dJ1_charAt_3b067_1 : decode cJ1_charAt_3b067 1 = .ok (.aload_n 0, 1) := by decide +kernel
theorem dJ1_charAt_3b067_2 : decode cJ1_charAt_3b067 2 = .ok (.arraylength, 1) := by decide +kernel
theorem dJ1_charAt_3b067_3 : decode cJ1_charAt_3b067 3 = .ok (.invokestatic 9, 3) := by decide +kernel
theorem dJ1_charAt_3b067_6 : decode cJ1_charAt_3b067 6 = .ok (.aload_n 0, 1) := by decide +kernel
theorem dJ1_charAt_3b067_7 : decode cJ1_charAt_3b067 7 = .ok (.iload_n 1, 1) := by decide +kernel
theorem dJ1_charAt_3b067_8 : decode cJ1_charAt_3b067 8 = .ok (.baload, 1) := by decide +kernel
theorem dJ1_charAt_3b067_9 : decode cJ1_charAt_3b067 9 = .ok (.sipush 255, 3) := by decide +kernel
theorem dJ1_charAt_3b067_12 : decode cJ1_charAt_3b067 12 = .ok (.iand, 1) := by decide +kernel
theorem dJ1_charAt_3b067_13 : decode cJ1_charAt_3b067 13 = .ok (.i2c, 1) := by decide +kernel
theorem dJ1_charAt_3b067_14 : decode cJ1_charAt_3b067 14 = .ok (.ireturn, 1) := by decide +kernel
theorem dJ2_checkIndex_2214a_0 : decode cJ2_checkIndex_2214a 0 = .ok (.iload_n 0, 1) := by decide +kernel
theorem dJ2_checkIndex_2214a_1 : decode cJ2_checkIndex_2214a 1 = .ok (.aload_n 1, 1) := by decide +kernel
theorem dJ2_checkIndex_2214a_2 : decode cJ2_checkIndex_2214a 2 = .ok (.invokestatic 48, 3) := by decide +kernel
theorem dJ2_checkIndex_2214a_5 : decode cJ2_checkIndex_2214a 5 = .ok (.invokestatic 414, 3) := by decide +kernel
theorem dJ2_checkIndex_2214a_8 : decode cJ2_checkIndex_2214a 8 = .ok (.return_, 1) := by decide +kernel
theorem dJxa1e45_init_da8c8_0 : decode cJxa1e45_init_da8c8 0 = .ok (.aload_n 0, 1) := by decide +kernel
theorem dJxa1e45_init_da8c8_1 : decode cJxa1e45_init_da8c8 1 = .ok (.invokespecial 1, 3) := by decide +kernel
theorem dJxa1e45_init_da8c8_4 : decode cJxa1e45_init_da8c8 4 = .ok (.return_, 1) := by decide +kernel
theorem dJxc12de_init_da8c8_0 : decode cJxc12de_init_da8c8 0 = .ok (.aload_n 0, 1) := by decide +kernel
theorem dJxc12de_init_da8c8_1 : decode cJxc12de_init_da8c8 1 = .ok (.invokespecial 1, 3) := by decide +kernel
theorem dJxc12de_init_da8c8_4 : decode cJxc12de_init_da8c8 4 = .ok (.aload_n 0, 1) := by decide +kernel
theorem dJxc12de_init_da8c8_5 : decode cJxc12de_init_da8c8 5 = .ok (.iconst 0, 1) := by decide +kernel
theorem dJxc12de_init_da8c8_6 : decode cJxc12de_init_da8c8 6 = .ok (.putfield 7, 3) := by decide +kernel
theorem dJxc12de_init_da8c8_9 : decode cJxc12de_init_da8c8 9 = .ok (.return_, 1) := by decide +kernel
theorem dJx4a65c_init_da8c8_0 : decode cJx4a65c_init_da8c8 0 = .ok (.aload_n 0, 1) := by decide +kernel
theorem dJx4a65c_init_da8c8_1 : decode cJx4a65c_init_da8c8 1 = .ok (.invokespecial 1, 3) := by decide +kernel
theorem dJx4a65c_init_da8c8_4 : decode cJx4a65c_init_da8c8 4 = .ok (.aload_n 0, 1) := by decide +kernel
theorem dJx4a65c_init_da8c8_5 : decode cJx4a65c_init_da8c8 5 = .ok (.getstatic 39, 3) := by decide +kernel
theorem dJx4a65c_init_da8c8_8 : decode cJx4a65c_init_da8c8 8 = .ok (.putfield 9, 3) := by decide +kernel
theorem dJx4a65c_init_da8c8_11 : decode cJx4a65c_init_da8c8 11 = .ok (.return_, 1) := by decide +kernel
theorem dJx4a65c_grow_92f84_0 : decode cJx4a65c_grow_92f84 0 = .ok (.aload_n 0, 1) := by decide +kernel
theorem dJx4a65c_grow_92f84_1 : decode cJx4a65c_grow_92f84 1 = .ok (.getfield 9, 3) := by decide +kernel
theorem dJx4a65c_grow_92f84_4 : decode cJx4a65c_grow_92f84 4 = .ok (.arraylength, 1) := by decide +kernel
theorem dJx4a65c_grow_92f84_5 : decode cJx4a65c_grow_92f84 5 = .ok (.istore_n 2, 1) := by decide +kernel
theorem dJx4a65c_grow_92f84_6 : decode cJx4a65c_grow_92f84 6 = .ok (.iload_n 2, 1) := by decide +kernel
theorem dJx4a65c_grow_92f84_7 : decode cJx4a65c_grow_92f84 7 = .ok (.ifCond .gt 13, 3) := by decide +kernel
theorem dJx4a65c_grow_92f84_10 : decode cJx4a65c_grow_92f84 10 = .ok (.aload_n 0, 1) := by decide +kernel
theorem dJx4a65c_grow_92f84_11 : decode cJx4a65c_grow_92f84 11 = .ok (.getfield 9, 3) := by decide +kernel
theorem dJx4a65c_grow_92f84_14 : decode cJx4a65c_grow_92f84 14 = .ok (.getstatic 39, 3) := by decide +kernel
theorem dJx4a65c_grow_92f84_17 : decode cJx4a65c_grow_92f84 17 = .ok (.if_acmp .eq 28, 3) := by decide +kernel
theorem dJx4a65c_grow_92f84_20 : decode cJx4a65c_grow_92f84 20 = .ok (.iload_n 2, 1) := by decide +kernel
theorem dJx4a65c_grow_92f84_21 : decode cJx4a65c_grow_92f84 21 = .ok (.iload_n 1, 1) := by decide +kernel
theorem dJx4a65c_grow_92f84_22 : decode cJx4a65c_grow_92f84 22 = .ok (.iload_n 2, 1) := by decide +kernel
theorem dJx4a65c_grow_92f84_23 : decode cJx4a65c_grow_92f84 23 = .ok (.isub, 1) := by decide +kernel
theorem dJx4a65c_grow_92f84_24 : decode cJx4a65c_grow_92f84 24 = .ok (.iload_n 2, 1) := by decide +kernel
theorem dJx4a65c_grow_92f84_25 : decode cJx4a65c_grow_92f84 25 = .ok (.iconst 1, 1) := by decide +kernel
theorem dJx4a65c_grow_92f84_26 : decode cJx4a65c_grow_92f84 26 = .ok (.ishr, 1) := by decide +kernel
theorem dJx4a65c_grow_92f84_27 : decode cJx4a65c_grow_92f84 27 = .ok (.invokestatic 73, 3) := by decide +kernel
theorem dJx4a65c_grow_92f84_30 : decode cJx4a65c_grow_92f84 30 = .ok (.istore_n 3, 1) := by decide +kernel
theorem dJx4a65c_grow_92f84_31 : decode cJx4a65c_grow_92f84 31 = .ok (.aload_n 0, 1) := by decide +kernel
theorem dJx4a65c_grow_92f84_32 : decode cJx4a65c_grow_92f84 32 = .ok (.aload_n 0, 1) := by decide +kernel
theorem dJx4a65c_grow_92f84_33 : decode cJx4a65c_grow_92f84 33 = .ok (.getfield 9, 3) := by decide +kernel
theorem dJx4a65c_grow_92f84_36 : decode cJx4a65c_grow_92f84 36 = .ok (.iload_n 3, 1) := by decide +kernel
theorem dJx4a65c_grow_92f84_37 : decode cJx4a65c_grow_92f84 37 = .ok (.invokestatic 66, 3) := by decide +kernel
theorem dJx4a65c_grow_92f84_40 : decode cJx4a65c_grow_92f84 40 = .ok (.dup_x1, 1) := by decide +kernel
theorem dJx4a65c_grow_92f84_41 : decode cJx4a65c_grow_92f84 41 = .ok (.putfield 9, 3) := by decide +kernel
theorem dJx4a65c_grow_92f84_44 : decode cJx4a65c_grow_92f84 44 = .ok (.areturn, 1) := by decide +kernel
theorem dJx4a65c_grow_92f84_45 : decode cJx4a65c_grow_92f84 45 = .ok (.aload_n 0, 1) := by decide +kernel
theorem dJx4a65c_grow_92f84_46 : decode cJx4a65c_grow_92f84 46 = .ok (.bipush 10, 2) := by decide +kernel
theorem dJx4a65c_grow_92f84_48 : decode cJx4a65c_grow_92f84 48 = .ok (.iload_n 1, 1) := by decide +kernel
theorem dJx4a65c_grow_92f84_49 : decode cJx4a65c_grow_92f84 49 = .ok (.invokestatic 79, 3) := by decide +kernel
theorem dJx4a65c_grow_92f84_52 : decode cJx4a65c_grow_92f84 52 = .ok (.anewarray 7, 3) := by decide +kernel
theorem dJx4a65c_grow_92f84_55 : decode cJx4a65c_grow_92f84 55 = .ok (.dup_x1, 1) := by decide +kernel
theorem dJx4a65c_grow_92f84_56 : decode cJx4a65c_grow_92f84 56 = .ok (.putfield 9, 3) := by decide +kernel
theorem dJx4a65c_grow_92f84_59 : decode cJx4a65c_grow_92f84 59 = .ok (.areturn, 1) := by decide +kernel
theorem dJx4a65c_grow_d5877_0 : decode cJx4a65c_grow_d5877 0 = .ok (.aload_n 0, 1) := by decide +kernel
theorem dJx4a65c_grow_d5877_1 : decode cJx4a65c_grow_d5877 1 = .ok (.aload_n 0, 1) := by decide +kernel
theorem dJx4a65c_grow_d5877_2 : decode cJx4a65c_grow_d5877 2 = .ok (.getfield 48, 3) := by decide +kernel
theorem dJx4a65c_grow_d5877_5 : decode cJx4a65c_grow_d5877 5 = .ok (.iconst 1, 1) := by decide +kernel
theorem dJx4a65c_grow_d5877_6 : decode cJx4a65c_grow_d5877 6 = .ok (.iadd, 1) := by decide +kernel
theorem dJx4a65c_grow_d5877_7 : decode cJx4a65c_grow_d5877 7 = .ok (.invokevirtual 69, 3) := by decide +kernel
theorem dJx4a65c_grow_d5877_10 : decode cJx4a65c_grow_d5877 10 = .ok (.areturn, 1) := by decide +kernel
theorem dJx4a65c_size_8abf5_0 : decode cJx4a65c_size_8abf5 0 = .ok (.aload_n 0, 1) := by decide +kernel
theorem dJx4a65c_size_8abf5_1 : decode cJx4a65c_size_8abf5 1 = .ok (.getfield 48, 3) := by decide +kernel
theorem dJx4a65c_size_8abf5_4 : decode cJx4a65c_size_8abf5 4 = .ok (.ireturn, 1) := by decide +kernel
theorem dJx4a65c_elementData_915e3_0 : decode cJx4a65c_elementData_915e3 0 = .ok (.aload_n 0, 1) := by decide +kernel
theorem dJx4a65c_elementData_915e3_1 : decode cJx4a65c_elementData_915e3 1 = .ok (.getfield 9, 3) := by decide +kernel
theorem dJx4a65c_elementData_915e3_4 : decode cJx4a65c_elementData_915e3 4 = .ok (.iload_n 1, 1) := by decide +kernel
theorem dJx4a65c_elementData_915e3_5 : decode cJx4a65c_elementData_915e3 5 = .ok (.aaload, 1) := by decide +kernel
theorem dJx4a65c_elementData_915e3_6 : decode cJx4a65c_elementData_915e3 6 = .ok (.areturn, 1) := by decide +kernel
theorem dJx4a65c_get_915e3_0 : decode cJx4a65c_get_915e3 0 = .ok (.iload_n 1, 1) := by decide +kernel
theorem dJx4a65c_get_915e3_1 : decode cJx4a65c_get_915e3 1 = .ok (.aload_n 0, 1) := by decide +kernel
theorem dJx4a65c_get_915e3_2 : decode cJx4a65c_get_915e3 2 = .ok (.getfield 48, 3) := by decide +kernel
theorem dJx4a65c_get_915e3_5 : decode cJx4a65c_get_915e3 5 = .ok (.invokestatic 118, 3) := by decide +kernel
theorem dJx4a65c_get_915e3_8 : decode cJx4a65c_get_915e3 8 = .ok (.pop, 1) := by decide +kernel
theorem dJx4a65c_get_915e3_9 : decode cJx4a65c_get_915e3 9 = .ok (.aload_n 0, 1) := by decide +kernel
theorem dJx4a65c_get_915e3_10 : decode cJx4a65c_get_915e3 10 = .ok (.iload_n 1, 1) := by decide +kernel
theorem dJx4a65c_get_915e3_11 : decode cJx4a65c_get_915e3 11 = .ok (.invokevirtual 123, 3) := by decide +kernel
theorem dJx4a65c_get_915e3_14 : decode cJx4a65c_get_915e3 14 = .ok (.areturn, 1) := by decide +kernel
theorem dJx4a65c_add_72be8_0 : decode cJx4a65c_add_72be8 0 = .ok (.iload_n 3, 1) := by decide +kernel
theorem dJx4a65c_add_72be8_1 : decode cJx4a65c_add_72be8 1 = .ok (.aload_n 2, 1) := by decide +kernel
theorem dJx4a65c_add_72be8_2 : decode cJx4a65c_add_72be8 2 = .ok (.arraylength, 1) := by decide +kernel
theorem dJx4a65c_add_72be8_3 : decode cJx4a65c_add_72be8 3 = .ok (.if_icmp .ne 8, 3) := by decide +kernel
theorem dJx4a65c_add_72be8_6 : decode cJx4a65c_add_72be8 6 = .ok (.aload_n 0, 1) := by decide +kernel
theorem dJx4a65c_add_72be8_7 : decode cJx4a65c_add_72be8 7 = .ok (.invokevirtual 129, 3) := by decide +kernel
theorem dJx4a65c_add_72be8_10 : decode cJx4a65c_add_72be8 10 = .ok (.astore_n 2, 1) := by decide +kernel
theorem dJx4a65c_add_72be8_11 : decode cJx4a65c_add_72be8 11 = .ok (.aload_n 2, 1) := by decide +kernel
theorem dJx4a65c_add_72be8_12 : decode cJx4a65c_add_72be8 12 = .ok (.iload_n 3, 1) := by decide +kernel
theorem dJx4a65c_add_72be8_13 : decode cJx4a65c_add_72be8 13 = .ok (.aload_n 1, 1) := by decide +kernel
theorem dJx4a65c_add_72be8_14 : decode cJx4a65c_add_72be8 14 = .ok (.aastore, 1) := by decide +kernel
theorem dJx4a65c_add_72be8_15 : decode cJx4a65c_add_72be8 15 = .ok (.aload_n 0, 1) := by decide +kernel
theorem dJx4a65c_add_72be8_16 : decode cJx4a65c_add_72be8 16 = .ok (.iload_n 3, 1) := by decide +kernel
theorem dJx4a65c_add_72be8_17 : decode cJx4a65c_add_72be8 17 = .ok (.iconst 1, 1) := by decide +kernel
theorem dJx4a65c_add_72be8_18 : decode cJx4a65c_add_72be8 18 = .ok (.iadd, 1) := by decide +kernel
theorem dJx4a65c_add_72be8_19 : decode cJx4a65c_add_72be8 19 = .ok (.putfield 48, 3) := by decide +kernel
theorem dJx4a65c_add_72be8_22 : decode cJx4a65c_add_72be8 22 = .ok (.return_, 1) := by decide +kernel
theorem dJx4a65c_add_9ea2d_0 : decode cJx4a65c_add_9ea2d 0 = .ok (.aload_n 0, 1) := by decide +kernel
theorem dJx4a65c_add_9ea2d_1 : decode cJx4a65c_add_9ea2d 1 = .ok (.dup, 1) := by decide +kernel
theorem dJx4a65c_add_9ea2d_2 : decode cJx4a65c_add_9ea2d 2 = .ok (.getfield 63, 3) := by decide +kernel
theorem dJx4a65c_add_9ea2d_5 : decode cJx4a65c_add_9ea2d 5 = .ok (.iconst 1, 1) := by decide +kernel
theorem dJx4a65c_add_9ea2d_6 : decode cJx4a65c_add_9ea2d 6 = .ok (.iadd, 1) := by decide +kernel
theorem dJx4a65c_add_9ea2d_7 : decode cJx4a65c_add_9ea2d 7 = .ok (.putfield 63, 3) := by decide +kernel
theorem dJx4a65c_add_9ea2d_10 : decode cJx4a65c_add_9ea2d 10 = .ok (.aload_n 0, 1) := by decide +kernel
theorem dJx4a65c_add_9ea2d_11 : decode cJx4a65c_add_9ea2d 11 = .ok (.aload_n 1, 1) := by decide +kernel
theorem dJx4a65c_add_9ea2d_12 : decode cJx4a65c_add_9ea2d 12 = .ok (.aload_n 0, 1) := by decide +kernel
theorem dJx4a65c_add_9ea2d_13 : decode cJx4a65c_add_9ea2d 13 = .ok (.getfield 9, 3) := by decide +kernel
theorem dJx4a65c_add_9ea2d_16 : decode cJx4a65c_add_9ea2d 16 = .ok (.aload_n 0, 1) := by decide +kernel
theorem dJx4a65c_add_9ea2d_17 : decode cJx4a65c_add_9ea2d 17 = .ok (.getfield 48, 3) := by decide +kernel
theorem dJx4a65c_add_9ea2d_20 : decode cJx4a65c_add_9ea2d 20 = .ok (.invokevirtual 131, 3) := by decide +kernel
theorem dJx4a65c_add_9ea2d_23 : decode cJx4a65c_add_9ea2d 23 = .ok (.iconst 1, 1) := by decide +kernel
theorem dJx4a65c_add_9ea2d_24 : decode cJx4a65c_add_9ea2d 24 = .ok (.ireturn, 1) := by decide +kernel
theorem dJ7_fill_53178_0 : decode cJ7_fill_53178 0 = .ok (.iconst 0, 1) := by decide +kernel
theorem dJ7_fill_53178_1 : decode cJ7_fill_53178 1 = .ok (.istore_n 2, 1) := by decide +kernel
theorem dJ7_fill_53178_2 : decode cJ7_fill_53178 2 = .ok (.aload_n 0, 1) := by decide +kernel
theorem dJ7_fill_53178_3 : decode cJ7_fill_53178 3 = .ok (.arraylength, 1) := by decide +kernel
theorem dJ7_fill_53178_4 : decode cJ7_fill_53178 4 = .ok (.istore_n 3, 1) := by decide +kernel
theorem dJ7_fill_53178_5 : decode cJ7_fill_53178 5 = .ok (.iload_n 2, 1) := by decide +kernel
theorem dJ7_fill_53178_6 : decode cJ7_fill_53178 6 = .ok (.iload_n 3, 1) := by decide +kernel
theorem dJ7_fill_53178_7 : decode cJ7_fill_53178 7 = .ok (.if_icmp .ge 13, 3) := by decide +kernel
theorem dJ7_fill_53178_10 : decode cJ7_fill_53178 10 = .ok (.aload_n 0, 1) := by decide +kernel
theorem dJ7_fill_53178_11 : decode cJ7_fill_53178 11 = .ok (.iload_n 2, 1) := by decide +kernel
theorem dJ7_fill_53178_12 : decode cJ7_fill_53178 12 = .ok (.iload_n 1, 1) := by decide +kernel
theorem dJ7_fill_53178_13 : decode cJ7_fill_53178 13 = .ok (.iastore, 1) := by decide +kernel
theorem dJ7_fill_53178_14 : decode cJ7_fill_53178 14 = .ok (.iinc 2 1, 3) := by decide +kernel
theorem dJ7_fill_53178_17 : decode cJ7_fill_53178 17 = .ok (.goto (-12), 3) := by decide +kernel
theorem dJ7_fill_53178_20 : decode cJ7_fill_53178 20 = .ok (.return_, 1) := by decide +kernel
theorem dJ7_copyOf_1904c_0 : decode cJ7_copyOf_1904c 0 = .ok (.aload_n 0, 1) := by decide +kernel
theorem dJ7_copyOf_1904c_1 : decode cJ7_copyOf_1904c 1 = .ok (.iload_n 1, 1) := by decide +kernel
theorem dJ7_copyOf_1904c_2 : decode cJ7_copyOf_1904c 2 = .ok (.aload_n 0, 1) := by decide +kernel
theorem dJ7_copyOf_1904c_3 : decode cJ7_copyOf_1904c 3 = .ok (.invokevirtual 86, 3) := by decide +kernel
theorem dJ7_copyOf_1904c_6 : decode cJ7_copyOf_1904c 6 = .ok (.invokestatic 300, 3) := by decide +kernel
theorem dJ7_copyOf_1904c_9 : decode cJ7_copyOf_1904c 9 = .ok (.areturn, 1) := by decide +kernel
theorem dJ7_copyOf_6403c_0 : decode cJ7_copyOf_6403c 0 = .ok (.aload_n 2, 1) := by decide +kernel
theorem dJ7_copyOf_6403c_1 : decode cJ7_copyOf_6403c 1 = .ok (.ldc 110, 2) := by decide +kernel
theorem dJ7_copyOf_6403c_3 : decode cJ7_copyOf_6403c 3 = .ok (.if_acmp .ne 10, 3) := by decide +kernel
theorem dJ7_copyOf_6403c_6 : decode cJ7_copyOf_6403c 6 = .ok (.iload_n 1, 1) := by decide +kernel
theorem dJ7_copyOf_6403c_7 : decode cJ7_copyOf_6403c 7 = .ok (.anewarray 2, 3) := by decide +kernel
theorem dJ7_copyOf_6403c_10 : decode cJ7_copyOf_6403c 10 = .ok (.goto 14, 3) := by decide +kernel
theorem dJ7_copyOf_6403c_13 : decode cJ7_copyOf_6403c 13 = .ok (.aload_n 2, 1) := by decide +kernel
theorem dJ7_copyOf_6403c_14 : decode cJ7_copyOf_6403c 14 = .ok (.invokevirtual 90, 3) := by decide +kernel
theorem dJ7_copyOf_6403c_17 : decode cJ7_copyOf_6403c 17 = .ok (.iload_n 1, 1) := by decide +kernel
theorem dJ7_copyOf_6403c_18 : decode cJ7_copyOf_6403c 18 = .ok (.invokestatic 95, 3) := by decide +kernel
theorem dJ7_copyOf_6403c_21 : decode cJ7_copyOf_6403c 21 = .ok (.checkcast 110, 3) := by decide +kernel
theorem dJ7_copyOf_6403c_24 : decode cJ7_copyOf_6403c 24 = .ok (.astore_n 3, 1) := by decide +kernel
theorem dJ7_copyOf_6403c_25 : decode cJ7_copyOf_6403c 25 = .ok (.aload_n 0, 1) := by decide +kernel
theorem dJ7_copyOf_6403c_26 : decode cJ7_copyOf_6403c 26 = .ok (.iconst 0, 1) := by decide +kernel
theorem dJ7_copyOf_6403c_27 : decode cJ7_copyOf_6403c 27 = .ok (.aload_n 3, 1) := by decide +kernel
theorem dJ7_copyOf_6403c_28 : decode cJ7_copyOf_6403c 28 = .ok (.iconst 0, 1) := by decide +kernel
theorem dJ7_copyOf_6403c_29 : decode cJ7_copyOf_6403c 29 = .ok (.aload_n 0, 1) := by decide +kernel
theorem dJ7_copyOf_6403c_30 : decode cJ7_copyOf_6403c 30 = .ok (.arraylength, 1) := by decide +kernel
theorem dJ7_copyOf_6403c_31 : decode cJ7_copyOf_6403c 31 = .ok (.iload_n 1, 1) := by decide +kernel
theorem dJ7_copyOf_6403c_32 : decode cJ7_copyOf_6403c 32 = .ok (.invokestatic 304, 3) := by decide +kernel
theorem dJ7_copyOf_6403c_35 : decode cJ7_copyOf_6403c 35 = .ok (.invokestatic 150, 3) := by decide +kernel
theorem dJ7_copyOf_6403c_38 : decode cJ7_copyOf_6403c 38 = .ok (.aload_n 3, 1) := by decide +kernel
theorem dJ7_copyOf_6403c_39 : decode cJ7_copyOf_6403c 39 = .ok (.areturn, 1) := by decide +kernel
theorem dJ7_copyOf_9075b_0 : decode cJ7_copyOf_9075b 0 = .ok (.iload_n 1, 1) := by decide +kernel
theorem dJ7_copyOf_9075b_1 : decode cJ7_copyOf_9075b 1 = .ok (.aload_n 0, 1) := by decide +kernel
theorem dJ7_copyOf_9075b_2 : decode cJ7_copyOf_9075b 2 = .ok (.arraylength, 1) := by decide +kernel
theorem dJ7_copyOf_9075b_3 : decode cJ7_copyOf_9075b 3 = .ok (.if_icmp .ne 11, 3) := by decide +kernel
theorem dJ7_copyOf_9075b_6 : decode cJ7_copyOf_9075b 6 = .ok (.aload_n 0, 1) := by decide +kernel
theorem dJ7_copyOf_9075b_7 : decode cJ7_copyOf_9075b 7 = .ok (.invokevirtual 310, 3) := by decide +kernel
theorem dJ7_copyOf_9075b_10 : decode cJ7_copyOf_9075b 10 = .ok (.checkcast 311, 3) := by decide +kernel
theorem dJ7_copyOf_9075b_13 : decode cJ7_copyOf_9075b 13 = .ok (.areturn, 1) := by decide +kernel
theorem dJ7_copyOf_9075b_14 : decode cJ7_copyOf_9075b 14 = .ok (.iload_n 1, 1) := by decide +kernel
theorem dJ7_copyOf_9075b_15 : decode cJ7_copyOf_9075b 15 = .ok (.newarray .byte, 2) := by decide +kernel
theorem dJ7_copyOf_9075b_17 : decode cJ7_copyOf_9075b 17 = .ok (.astore_n 2, 1) := by decide +kernel
theorem dJ7_copyOf_9075b_18 : decode cJ7_copyOf_9075b 18 = .ok (.aload_n 0, 1) := by decide +kernel
theorem dJ7_copyOf_9075b_19 : decode cJ7_copyOf_9075b 19 = .ok (.iconst 0, 1) := by decide +kernel
theorem dJ7_copyOf_9075b_20 : decode cJ7_copyOf_9075b 20 = .ok (.aload_n 2, 1) := by decide +kernel
theorem dJ7_copyOf_9075b_21 : decode cJ7_copyOf_9075b 21 = .ok (.iconst 0, 1) := by decide +kernel
theorem dJ7_copyOf_9075b_22 : decode cJ7_copyOf_9075b 22 = .ok (.aload_n 0, 1) := by decide +kernel
theorem dJ7_copyOf_9075b_23 : decode cJ7_copyOf_9075b 23 = .ok (.arraylength, 1) := by decide +kernel
theorem dJ7_copyOf_9075b_24 : decode cJ7_copyOf_9075b 24 = .ok (.iload_n 1, 1) := by decide +kernel
theorem dJ7_copyOf_9075b_25 : decode cJ7_copyOf_9075b 25 = .ok (.invokestatic 304, 3) := by decide +kernel
theorem dJ7_copyOf_9075b_28 : decode cJ7_copyOf_9075b 28 = .ok (.invokestatic 150, 3) := by decide +kernel
theorem dJ7_copyOf_9075b_31 : decode cJ7_copyOf_9075b 31 = .ok (.aload_n 2, 1) := by decide +kernel
theorem dJ7_copyOf_9075b_32 : decode cJ7_copyOf_9075b 32 = .ok (.areturn, 1) := by decide +kernel
theorem dJ7_copyOf_59c91_0 : decode cJ7_copyOf_59c91 0 = .ok (.iload_n 1, 1) := by decide +kernel
theorem dJ7_copyOf_59c91_1 : decode cJ7_copyOf_59c91 1 = .ok (.aload_n 0, 1) := by decide +kernel
theorem dJ7_copyOf_59c91_2 : decode cJ7_copyOf_59c91 2 = .ok (.arraylength, 1) := by decide +kernel
theorem dJ7_copyOf_59c91_3 : decode cJ7_copyOf_59c91 3 = .ok (.if_icmp .ne 11, 3) := by decide +kernel
theorem dJ7_copyOf_59c91_6 : decode cJ7_copyOf_59c91 6 = .ok (.aload_n 0, 1) := by decide +kernel
theorem dJ7_copyOf_59c91_7 : decode cJ7_copyOf_59c91 7 = .ok (.invokevirtual 316, 3) := by decide +kernel
theorem dJ7_copyOf_59c91_10 : decode cJ7_copyOf_59c91 10 = .ok (.checkcast 317, 3) := by decide +kernel
theorem dJ7_copyOf_59c91_13 : decode cJ7_copyOf_59c91 13 = .ok (.areturn, 1) := by decide +kernel
theorem dJ7_copyOf_59c91_14 : decode cJ7_copyOf_59c91 14 = .ok (.iload_n 1, 1) := by decide +kernel
theorem dJ7_copyOf_59c91_15 : decode cJ7_copyOf_59c91 15 = .ok (.newarray .int, 2) := by decide +kernel
theorem dJ7_copyOf_59c91_17 : decode cJ7_copyOf_59c91 17 = .ok (.astore_n 2, 1) := by decide +kernel
theorem dJ7_copyOf_59c91_18 : decode cJ7_copyOf_59c91 18 = .ok (.aload_n 0, 1) := by decide +kernel
theorem dJ7_copyOf_59c91_19 : decode cJ7_copyOf_59c91 19 = .ok (.iconst 0, 1) := by decide +kernel
theorem dJ7_copyOf_59c91_20 : decode cJ7_copyOf_59c91 20 = .ok (.aload_n 2, 1) := by decide +kernel
theorem dJ7_copyOf_59c91_21 : decode cJ7_copyOf_59c91 21 = .ok (.iconst 0, 1) := by decide +kernel
theorem dJ7_copyOf_59c91_22 : decode cJ7_copyOf_59c91 22 = .ok (.aload_n 0, 1) := by decide +kernel
theorem dJ7_copyOf_59c91_23 : decode cJ7_copyOf_59c91 23 = .ok (.arraylength, 1) := by decide +kernel
theorem dJ7_copyOf_59c91_24 : decode cJ7_copyOf_59c91 24 = .ok (.iload_n 1, 1) := by decide +kernel
theorem dJ7_copyOf_59c91_25 : decode cJ7_copyOf_59c91 25 = .ok (.invokestatic 304, 3) := by decide +kernel
theorem dJ7_copyOf_59c91_28 : decode cJ7_copyOf_59c91 28 = .ok (.invokestatic 150, 3) := by decide +kernel
theorem dJ7_copyOf_59c91_31 : decode cJ7_copyOf_59c91 31 = .ok (.aload_n 2, 1) := by decide +kernel
theorem dJ7_copyOf_59c91_32 : decode cJ7_copyOf_59c91 32 = .ok (.areturn, 1) := by decide +kernel
theorem dJ7_copyOf_c38d5_0 : decode cJ7_copyOf_c38d5 0 = .ok (.iload_n 1, 1) := by decide +kernel
theorem dJ7_copyOf_c38d5_1 : decode cJ7_copyOf_c38d5 1 = .ok (.aload_n 0, 1) := by decide +kernel
theorem dJ7_copyOf_c38d5_2 : decode cJ7_copyOf_c38d5 2 = .ok (.arraylength, 1) := by decide +kernel
theorem dJ7_copyOf_c38d5_3 : decode cJ7_copyOf_c38d5 3 = .ok (.if_icmp .ne 11, 3) := by decide +kernel
theorem dJ7_copyOf_c38d5_6 : decode cJ7_copyOf_c38d5 6 = .ok (.aload_n 0, 1) := by decide +kernel
theorem dJ7_copyOf_c38d5_7 : decode cJ7_copyOf_c38d5 7 = .ok (.invokevirtual 319, 3) := by decide +kernel
theorem dJ7_copyOf_c38d5_10 : decode cJ7_copyOf_c38d5 10 = .ok (.checkcast 320, 3) := by decide +kernel
theorem dJ7_copyOf_c38d5_13 : decode cJ7_copyOf_c38d5 13 = .ok (.areturn, 1) := by decide +kernel
theorem dJ7_copyOf_c38d5_14 : decode cJ7_copyOf_c38d5 14 = .ok (.iload_n 1, 1) := by decide +kernel
theorem dJ7_copyOf_c38d5_15 : decode cJ7_copyOf_c38d5 15 = .ok (.newarray .long, 2) := by decide +kernel
theorem dJ7_copyOf_c38d5_17 : decode cJ7_copyOf_c38d5 17 = .ok (.astore_n 2, 1) := by decide +kernel
theorem dJ7_copyOf_c38d5_18 : decode cJ7_copyOf_c38d5 18 = .ok (.aload_n 0, 1) := by decide +kernel
theorem dJ7_copyOf_c38d5_19 : decode cJ7_copyOf_c38d5 19 = .ok (.iconst 0, 1) := by decide +kernel
theorem dJ7_copyOf_c38d5_20 : decode cJ7_copyOf_c38d5 20 = .ok (.aload_n 2, 1) := by decide +kernel
theorem dJ7_copyOf_c38d5_21 : decode cJ7_copyOf_c38d5 21 = .ok (.iconst 0, 1) := by decide +kernel
theorem dJ7_copyOf_c38d5_22 : decode cJ7_copyOf_c38d5 22 = .ok (.aload_n 0, 1) := by decide +kernel
theorem dJ7_copyOf_c38d5_23 : decode cJ7_copyOf_c38d5 23 = .ok (.arraylength, 1) := by decide +kernel
theorem dJ7_copyOf_c38d5_24 : decode cJ7_copyOf_c38d5 24 = .ok (.iload_n 1, 1) := by decide +kernel
theorem dJ7_copyOf_c38d5_25 : decode cJ7_copyOf_c38d5 25 = .ok (.invokestatic 304, 3) := by decide +kernel
theorem dJ7_copyOf_c38d5_28 : decode cJ7_copyOf_c38d5 28 = .ok (.invokestatic 150, 3) := by decide +kernel
theorem dJ7_copyOf_c38d5_31 : decode cJ7_copyOf_c38d5 31 = .ok (.aload_n 2, 1) := by decide +kernel
theorem dJ7_copyOf_c38d5_32 : decode cJ7_copyOf_c38d5 32 = .ok (.areturn, 1) := by decide +kernel
theorem dJ7_checkLength_df160_0 : decode cJ7_checkLength_df160 0 = .ok (.iload_n 1, 1) := by decide +kernel
theorem dJ7_checkLength_df160_1 : decode cJ7_checkLength_df160 1 = .ok (.iload_n 0, 1) := by decide +kernel
theorem dJ7_checkLength_df160_2 : decode cJ7_checkLength_df160 2 = .ok (.if_icmp .ge 35, 3) := by decide +kernel
theorem dJ7_checkLength_df160_5 : decode cJ7_checkLength_df160 5 = .ok (.new 43, 3) := by decide +kernel
theorem dJ7_checkLength_df160_8 : decode cJ7_checkLength_df160 8 = .ok (.dup, 1) := by decide +kernel
theorem dJ7_checkLength_df160_9 : decode cJ7_checkLength_df160 9 = .ok (.new 45, 3) := by decide +kernel
theorem dJ7_checkLength_df160_12 : decode cJ7_checkLength_df160 12 = .ok (.dup, 1) := by decide +kernel
theorem dJ7_checkLength_df160_13 : decode cJ7_checkLength_df160 13 = .ok (.invokespecial 47, 3) := by decide +kernel
theorem dJ7_checkLength_df160_16 : decode cJ7_checkLength_df160 16 = .ok (.iload_n 0, 1) := by decide +kernel
theorem dJ7_checkLength_df160_17 : decode cJ7_checkLength_df160 17 = .ok (.invokevirtual 54, 3) := by decide +kernel
theorem dJ7_checkLength_df160_20 : decode cJ7_checkLength_df160 20 = .ok (.ldc_w 337, 3) := by decide +kernel
theorem dJ7_checkLength_df160_23 : decode cJ7_checkLength_df160 23 = .ok (.invokevirtual 50, 3) := by decide +kernel
theorem dJ7_checkLength_df160_26 : decode cJ7_checkLength_df160 26 = .ok (.iload_n 1, 1) := by decide +kernel
theorem dJ7_checkLength_df160_27 : decode cJ7_checkLength_df160 27 = .ok (.invokevirtual 54, 3) := by decide +kernel
theorem dJ7_checkLength_df160_30 : decode cJ7_checkLength_df160 30 = .ok (.invokevirtual 61, 3) := by decide +kernel
theorem dJ7_checkLength_df160_33 : decode cJ7_checkLength_df160 33 = .ok (.invokespecial 65, 3) := by decide +kernel
theorem dJ7_checkLength_df160_36 : decode cJ7_checkLength_df160 36 = .ok (.athrow, 1) := by decide +kernel
theorem dJ7_checkLength_df160_37 : decode cJ7_checkLength_df160 37 = .ok (.return_, 1) := by decide +kernel
theorem dJ7_copyOfRange_39247_0 : decode cJ7_copyOfRange_39247 0 = .ok (.iload_n 1, 1) := by decide +kernel
theorem dJ7_copyOfRange_39247_1 : decode cJ7_copyOfRange_39247 1 = .ok (.ifCond .ne 9, 3) := by decide +kernel
theorem dJ7_copyOfRange_39247_4 : decode cJ7_copyOfRange_39247 4 = .ok (.iload_n 2, 1) := by decide +kernel
theorem dJ7_copyOfRange_39247_5 : decode cJ7_copyOfRange_39247 5 = .ok (.aload_n 0, 1) := by decide +kernel
theorem dJ7_copyOfRange_39247_6 : decode cJ7_copyOfRange_39247 6 = .ok (.arraylength, 1) := by decide +kernel
theorem dJ7_copyOfRange_39247_7 : decode cJ7_copyOfRange_39247 7 = .ok (.if_icmp .eq 10, 3) := by decide +kernel
theorem dJ7_copyOfRange_39247_10 : decode cJ7_copyOfRange_39247 10 = .ok (.aload_n 0, 1) := by decide +kernel
theorem dJ7_copyOfRange_39247_11 : decode cJ7_copyOfRange_39247 11 = .ok (.iload_n 1, 1) := by decide +kernel
theorem dJ7_copyOfRange_39247_12 : decode cJ7_copyOfRange_39247 12 = .ok (.iload_n 2, 1) := by decide +kernel
theorem dJ7_copyOfRange_39247_13 : decode cJ7_copyOfRange_39247 13 = .ok (.invokestatic 339, 3) := by decide +kernel
theorem dJ7_copyOfRange_39247_16 : decode cJ7_copyOfRange_39247 16 = .ok (.areturn, 1) := by decide +kernel
theorem dJ7_copyOfRange_39247_17 : decode cJ7_copyOfRange_39247 17 = .ok (.aload_n 0, 1) := by decide +kernel
theorem dJ7_copyOfRange_39247_18 : decode cJ7_copyOfRange_39247 18 = .ok (.invokevirtual 310, 3) := by decide +kernel
theorem dJ7_copyOfRange_39247_21 : decode cJ7_copyOfRange_39247 21 = .ok (.checkcast 311, 3) := by decide +kernel
theorem dJ7_copyOfRange_39247_24 : decode cJ7_copyOfRange_39247 24 = .ok (.areturn, 1) := by decide +kernel
theorem dJ7_copyOfRangeByte_39247_0 : decode cJ7_copyOfRangeByte_39247 0 = .ok (.iload_n 1, 1) := by decide +kernel
theorem dJ7_copyOfRangeByte_39247_1 : decode cJ7_copyOfRangeByte_39247 1 = .ok (.iload_n 2, 1) := by decide +kernel
theorem dJ7_copyOfRangeByte_39247_2 : decode cJ7_copyOfRangeByte_39247 2 = .ok (.invokestatic 343, 3) := by decide +kernel
theorem dJ7_copyOfRangeByte_39247_5 : decode cJ7_copyOfRangeByte_39247 5 = .ok (.iload_n 2, 1) := by decide +kernel
theorem dJ7_copyOfRangeByte_39247_6 : decode cJ7_copyOfRangeByte_39247 6 = .ok (.iload_n 1, 1) := by decide +kernel
theorem dJ7_copyOfRangeByte_39247_7 : decode cJ7_copyOfRangeByte_39247 7 = .ok (.isub, 1) := by decide +kernel
theorem dJ7_copyOfRangeByte_39247_8 : decode cJ7_copyOfRangeByte_39247 8 = .ok (.istore_n 3, 1) := by decide +kernel
theorem dJ7_copyOfRangeByte_39247_9 : decode cJ7_copyOfRangeByte_39247 9 = .ok (.iload_n 3, 1) := by decide +kernel
theorem dJ7_copyOfRangeByte_39247_10 : decode cJ7_copyOfRangeByte_39247 10 = .ok (.newarray .byte, 2) := by decide +kernel
theorem dJ7_copyOfRangeByte_39247_12 : decode cJ7_copyOfRangeByte_39247 12 = .ok (.astore 4, 2) := by decide +kernel
theorem dJ7_copyOfRangeByte_39247_14 : decode cJ7_copyOfRangeByte_39247 14 = .ok (.aload_n 0, 1) := by decide +kernel
theorem dJ7_copyOfRangeByte_39247_15 : decode cJ7_copyOfRangeByte_39247 15 = .ok (.iload_n 1, 1) := by decide +kernel
theorem dJ7_copyOfRangeByte_39247_16 : decode cJ7_copyOfRangeByte_39247 16 = .ok (.aload 4, 2) := by decide +kernel
theorem dJ7_copyOfRangeByte_39247_18 : decode cJ7_copyOfRangeByte_39247 18 = .ok (.iconst 0, 1) := by decide +kernel
theorem dJ7_copyOfRangeByte_39247_19 : decode cJ7_copyOfRangeByte_39247 19 = .ok (.aload_n 0, 1) := by decide +kernel
theorem dJ7_copyOfRangeByte_39247_20 : decode cJ7_copyOfRangeByte_39247 20 = .ok (.arraylength, 1) := by decide +kernel
theorem dJ7_copyOfRangeByte_39247_21 : decode cJ7_copyOfRangeByte_39247 21 = .ok (.iload_n 1, 1) := by decide +kernel
theorem dJ7_copyOfRangeByte_39247_22 : decode cJ7_copyOfRangeByte_39247 22 = .ok (.isub, 1) := by decide +kernel
theorem dJ7_copyOfRangeByte_39247_23 : decode cJ7_copyOfRangeByte_39247 23 = .ok (.iload_n 3, 1) := by decide +kernel
theorem dJ7_copyOfRangeByte_39247_24 : decode cJ7_copyOfRangeByte_39247 24 = .ok (.invokestatic 304, 3) := by decide +kernel
theorem dJ7_copyOfRangeByte_39247_27 : decode cJ7_copyOfRangeByte_39247 27 = .ok (.invokestatic 150, 3) := by decide +kernel
theorem dJ7_copyOfRangeByte_39247_30 : decode cJ7_copyOfRangeByte_39247 30 = .ok (.aload 4, 2) := by decide +kernel
theorem dJ7_copyOfRangeByte_39247_32 : decode cJ7_copyOfRangeByte_39247 32 = .ok (.areturn, 1) := by decide +kernel
theorem dJ7_copyOfRange_23910_0 : decode cJ7_copyOfRange_23910 0 = .ok (.iload_n 1, 1) := by decide +kernel
theorem dJ7_copyOfRange_23910_1 : decode cJ7_copyOfRange_23910 1 = .ok (.ifCond .ne 9, 3) := by decide +kernel
theorem dJ7_copyOfRange_23910_4 : decode cJ7_copyOfRange_23910 4 = .ok (.iload_n 2, 1) := by decide +kernel
theorem dJ7_copyOfRange_23910_5 : decode cJ7_copyOfRange_23910 5 = .ok (.aload_n 0, 1) := by decide +kernel
theorem dJ7_copyOfRange_23910_6 : decode cJ7_copyOfRange_23910 6 = .ok (.arraylength, 1) := by decide +kernel
theorem dJ7_copyOfRange_23910_7 : decode cJ7_copyOfRange_23910 7 = .ok (.if_icmp .eq 10, 3) := by decide +kernel
theorem dJ7_copyOfRange_23910_10 : decode cJ7_copyOfRange_23910 10 = .ok (.aload_n 0, 1) := by decide +kernel
theorem dJ7_copyOfRange_23910_11 : decode cJ7_copyOfRange_23910 11 = .ok (.iload_n 1, 1) := by decide +kernel
theorem dJ7_copyOfRange_23910_12 : decode cJ7_copyOfRange_23910 12 = .ok (.iload_n 2, 1) := by decide +kernel
theorem dJ7_copyOfRange_23910_13 : decode cJ7_copyOfRange_23910 13 = .ok (.invokestatic 355, 3) := by decide +kernel
theorem dJ7_copyOfRange_23910_16 : decode cJ7_copyOfRange_23910 16 = .ok (.areturn, 1) := by decide +kernel
theorem dJ7_copyOfRange_23910_17 : decode cJ7_copyOfRange_23910 17 = .ok (.aload_n 0, 1) := by decide +kernel
theorem dJ7_copyOfRange_23910_18 : decode cJ7_copyOfRange_23910 18 = .ok (.invokevirtual 319, 3) := by decide +kernel
theorem dJ7_copyOfRange_23910_21 : decode cJ7_copyOfRange_23910 21 = .ok (.checkcast 320, 3) := by decide +kernel
theorem dJ7_copyOfRange_23910_24 : decode cJ7_copyOfRange_23910 24 = .ok (.areturn, 1) := by decide +kernel
theorem dJ7_copyOfRangeLong_23910_0 : decode cJ7_copyOfRangeLong_23910 0 = .ok (.iload_n 1, 1) := by decide +kernel
theorem dJ7_copyOfRangeLong_23910_1 : decode cJ7_copyOfRangeLong_23910 1 = .ok (.iload_n 2, 1) := by decide +kernel
theorem dJ7_copyOfRangeLong_23910_2 : decode cJ7_copyOfRangeLong_23910 2 = .ok (.invokestatic 343, 3) := by decide +kernel
theorem dJ7_copyOfRangeLong_23910_5 : decode cJ7_copyOfRangeLong_23910 5 = .ok (.iload_n 2, 1) := by decide +kernel
theorem dJ7_copyOfRangeLong_23910_6 : decode cJ7_copyOfRangeLong_23910 6 = .ok (.iload_n 1, 1) := by decide +kernel
theorem dJ7_copyOfRangeLong_23910_7 : decode cJ7_copyOfRangeLong_23910 7 = .ok (.isub, 1) := by decide +kernel
theorem dJ7_copyOfRangeLong_23910_8 : decode cJ7_copyOfRangeLong_23910 8 = .ok (.istore_n 3, 1) := by decide +kernel
theorem dJ7_copyOfRangeLong_23910_9 : decode cJ7_copyOfRangeLong_23910 9 = .ok (.iload_n 3, 1) := by decide +kernel
theorem dJ7_copyOfRangeLong_23910_10 : decode cJ7_copyOfRangeLong_23910 10 = .ok (.newarray .long, 2) := by decide +kernel
theorem dJ7_copyOfRangeLong_23910_12 : decode cJ7_copyOfRangeLong_23910 12 = .ok (.astore 4, 2) := by decide +kernel
theorem dJ7_copyOfRangeLong_23910_14 : decode cJ7_copyOfRangeLong_23910 14 = .ok (.aload_n 0, 1) := by decide +kernel
theorem dJ7_copyOfRangeLong_23910_15 : decode cJ7_copyOfRangeLong_23910 15 = .ok (.iload_n 1, 1) := by decide +kernel
theorem dJ7_copyOfRangeLong_23910_16 : decode cJ7_copyOfRangeLong_23910 16 = .ok (.aload 4, 2) := by decide +kernel
theorem dJ7_copyOfRangeLong_23910_18 : decode cJ7_copyOfRangeLong_23910 18 = .ok (.iconst 0, 1) := by decide +kernel
theorem dJ7_copyOfRangeLong_23910_19 : decode cJ7_copyOfRangeLong_23910 19 = .ok (.aload_n 0, 1) := by decide +kernel
theorem dJ7_copyOfRangeLong_23910_20 : decode cJ7_copyOfRangeLong_23910 20 = .ok (.arraylength, 1) := by decide +kernel
theorem dJ7_copyOfRangeLong_23910_21 : decode cJ7_copyOfRangeLong_23910 21 = .ok (.iload_n 1, 1) := by decide +kernel
theorem dJ7_copyOfRangeLong_23910_22 : decode cJ7_copyOfRangeLong_23910 22 = .ok (.isub, 1) := by decide +kernel
theorem dJ7_copyOfRangeLong_23910_23 : decode cJ7_copyOfRangeLong_23910 23 = .ok (.iload_n 3, 1) := by decide +kernel
theorem dJ7_copyOfRangeLong_23910_24 : decode cJ7_copyOfRangeLong_23910 24 = .ok (.invokestatic 304, 3) := by decide +kernel
theorem dJ7_copyOfRangeLong_23910_27 : decode cJ7_copyOfRangeLong_23910 27 = .ok (.invokestatic 150, 3) := by decide +kernel
theorem dJ7_copyOfRangeLong_23910_30 : decode cJ7_copyOfRangeLong_23910 30 = .ok (.aload 4, 2) := by decide +kernel
theorem dJ7_copyOfRangeLong_23910_32 : decode cJ7_copyOfRangeLong_23910 32 = .ok (.areturn, 1) := by decide +kernel
theorem dJ15_checkIndex_7cf53_0 : decode cJ15_checkIndex_7cf53 0 = .ok (.iload_n 0, 1) := by decide +kernel
theorem dJ15_checkIndex_7cf53_1 : decode cJ15_checkIndex_7cf53 1 = .ok (.iload_n 1, 1) := by decide +kernel
theorem dJ15_checkIndex_7cf53_2 : decode cJ15_checkIndex_7cf53 2 = .ok (.aconst_null, 1) := by decide +kernel
theorem dJ15_checkIndex_7cf53_3 : decode cJ15_checkIndex_7cf53 3 = .ok (.invokestatic 105, 3) := by decide +kernel
theorem dJ15_checkIndex_7cf53_6 : decode cJ15_checkIndex_7cf53 6 = .ok (.ireturn, 1) := by decide +kernel
theorem dJ8_newLength_cabcc_0 : decode cJ8_newLength_cabcc 0 = .ok (.iload_n 0, 1) := by decide +kernel
theorem dJ8_newLength_cabcc_1 : decode cJ8_newLength_cabcc 1 = .ok (.iload_n 1, 1) := by decide +kernel
theorem dJ8_newLength_cabcc_2 : decode cJ8_newLength_cabcc 2 = .ok (.iload_n 2, 1) := by decide +kernel
theorem dJ8_newLength_cabcc_3 : decode cJ8_newLength_cabcc 3 = .ok (.invokestatic 194, 3) := by decide +kernel
theorem dJ8_newLength_cabcc_6 : decode cJ8_newLength_cabcc 6 = .ok (.iadd, 1) := by decide +kernel
theorem dJ8_newLength_cabcc_7 : decode cJ8_newLength_cabcc 7 = .ok (.istore_n 3, 1) := by decide +kernel
theorem dJ8_newLength_cabcc_8 : decode cJ8_newLength_cabcc 8 = .ok (.iconst 0, 1) := by decide +kernel
theorem dJ8_newLength_cabcc_9 : decode cJ8_newLength_cabcc 9 = .ok (.iload_n 3, 1) := by decide +kernel
theorem dJ8_newLength_cabcc_10 : decode cJ8_newLength_cabcc 10 = .ok (.if_icmp .ge 11, 3) := by decide +kernel
theorem dJ8_newLength_cabcc_13 : decode cJ8_newLength_cabcc 13 = .ok (.iload_n 3, 1) := by decide +kernel
theorem dJ8_newLength_cabcc_14 : decode cJ8_newLength_cabcc 14 = .ok (.ldc 200, 2) := by decide +kernel
theorem dJ8_newLength_cabcc_16 : decode cJ8_newLength_cabcc 16 = .ok (.if_icmp .gt 5, 3) := by decide +kernel
theorem dJ8_newLength_cabcc_19 : decode cJ8_newLength_cabcc 19 = .ok (.iload_n 3, 1) := by decide +kernel
theorem dJ8_newLength_cabcc_20 : decode cJ8_newLength_cabcc 20 = .ok (.ireturn, 1) := by decide +kernel
theorem dJ8_newLength_cabcc_21 : decode cJ8_newLength_cabcc 21 = .ok (.iload_n 0, 1) := by decide +kernel
theorem dJ8_newLength_cabcc_22 : decode cJ8_newLength_cabcc 22 = .ok (.iload_n 1, 1) := by decide +kernel
theorem dJ8_newLength_cabcc_23 : decode cJ8_newLength_cabcc 23 = .ok (.invokestatic 201, 3) := by decide +kernel
theorem dJ8_newLength_cabcc_26 : decode cJ8_newLength_cabcc 26 = .ok (.ireturn, 1) := by decide +kernel
theorem dJ8_hugeLength_7cf53_0 : decode cJ8_hugeLength_7cf53 0 = .ok (.iload_n 0, 1) := by decide +kernel
theorem dJ8_hugeLength_7cf53_1 : decode cJ8_hugeLength_7cf53 1 = .ok (.iload_n 1, 1) := by decide +kernel
theorem dJ8_hugeLength_7cf53_2 : decode cJ8_hugeLength_7cf53 2 = .ok (.iadd, 1) := by decide +kernel
theorem dJ8_hugeLength_7cf53_3 : decode cJ8_hugeLength_7cf53 3 = .ok (.istore_n 2, 1) := by decide +kernel
theorem dJ8_hugeLength_7cf53_4 : decode cJ8_hugeLength_7cf53 4 = .ok (.iload_n 2, 1) := by decide +kernel
theorem dJ8_hugeLength_7cf53_5 : decode cJ8_hugeLength_7cf53 5 = .ok (.ifCond .ge 44, 3) := by decide +kernel
theorem dJ8_hugeLength_7cf53_8 : decode cJ8_hugeLength_7cf53 8 = .ok (.new 204, 3) := by decide +kernel
theorem dJ8_hugeLength_7cf53_11 : decode cJ8_hugeLength_7cf53 11 = .ok (.dup, 1) := by decide +kernel
theorem dJ8_hugeLength_7cf53_12 : decode cJ8_hugeLength_7cf53 12 = .ok (.new 89, 3) := by decide +kernel
theorem dJ8_hugeLength_7cf53_15 : decode cJ8_hugeLength_7cf53 15 = .ok (.dup, 1) := by decide +kernel
theorem dJ8_hugeLength_7cf53_16 : decode cJ8_hugeLength_7cf53 16 = .ok (.invokespecial 91, 3) := by decide +kernel
theorem dJ8_hugeLength_7cf53_19 : decode cJ8_hugeLength_7cf53 19 = .ok (.ldc 206, 2) := by decide +kernel
theorem dJ8_hugeLength_7cf53_21 : decode cJ8_hugeLength_7cf53 21 = .ok (.invokevirtual 94, 3) := by decide +kernel
theorem dJ8_hugeLength_7cf53_24 : decode cJ8_hugeLength_7cf53 24 = .ok (.iload_n 0, 1) := by decide +kernel
theorem dJ8_hugeLength_7cf53_25 : decode cJ8_hugeLength_7cf53 25 = .ok (.invokevirtual 98, 3) := by decide +kernel
theorem dJ8_hugeLength_7cf53_28 : decode cJ8_hugeLength_7cf53 28 = .ok (.ldc 208, 2) := by decide +kernel
theorem dJ8_hugeLength_7cf53_30 : decode cJ8_hugeLength_7cf53 30 = .ok (.invokevirtual 94, 3) := by decide +kernel
theorem dJ8_hugeLength_7cf53_33 : decode cJ8_hugeLength_7cf53 33 = .ok (.iload_n 1, 1) := by decide +kernel
theorem dJ8_hugeLength_7cf53_34 : decode cJ8_hugeLength_7cf53 34 = .ok (.invokevirtual 98, 3) := by decide +kernel
theorem dJ8_hugeLength_7cf53_37 : decode cJ8_hugeLength_7cf53 37 = .ok (.ldc 210, 2) := by decide +kernel
theorem dJ8_hugeLength_7cf53_39 : decode cJ8_hugeLength_7cf53 39 = .ok (.invokevirtual 94, 3) := by decide +kernel
theorem dJ8_hugeLength_7cf53_42 : decode cJ8_hugeLength_7cf53 42 = .ok (.invokevirtual 101, 3) := by decide +kernel
theorem dJ8_hugeLength_7cf53_45 : decode cJ8_hugeLength_7cf53 45 = .ok (.invokespecial 212, 3) := by decide +kernel
theorem dJ8_hugeLength_7cf53_48 : decode cJ8_hugeLength_7cf53 48 = .ok (.athrow, 1) := by decide +kernel
theorem dJ8_hugeLength_7cf53_49 : decode cJ8_hugeLength_7cf53 49 = .ok (.iload_n 2, 1) := by decide +kernel
theorem dJ8_hugeLength_7cf53_50 : decode cJ8_hugeLength_7cf53 50 = .ok (.ldc 200, 2) := by decide +kernel
theorem dJ8_hugeLength_7cf53_52 : decode cJ8_hugeLength_7cf53 52 = .ok (.if_icmp .gt 6, 3) := by decide +kernel
theorem dJ8_hugeLength_7cf53_55 : decode cJ8_hugeLength_7cf53 55 = .ok (.ldc 200, 2) := by decide +kernel
theorem dJ8_hugeLength_7cf53_57 : decode cJ8_hugeLength_7cf53 57 = .ok (.ireturn, 1) := by decide +kernel
theorem dJ8_hugeLength_7cf53_58 : decode cJ8_hugeLength_7cf53 58 = .ok (.iload_n 2, 1) := by decide +kernel
theorem dJ8_hugeLength_7cf53_59 : decode cJ8_hugeLength_7cf53 59 = .ok (.ireturn, 1) := by decide +kernel
theorem dJ3_checkIndex_8e157_0 : decode cJ3_checkIndex_8e157 0 = .ok (.iload_n 0, 1) := by decide +kernel
theorem dJ3_checkIndex_8e157_1 : decode cJ3_checkIndex_8e157 1 = .ok (.ifCond .lt 8, 3) := by decide +kernel
theorem dJ3_checkIndex_8e157_4 : decode cJ3_checkIndex_8e157 4 = .ok (.iload_n 0, 1) := by decide +kernel
theorem dJ3_checkIndex_8e157_5 : decode cJ3_checkIndex_8e157 5 = .ok (.iload_n 1, 1) := by decide +kernel
theorem dJ3_checkIndex_8e157_6 : decode cJ3_checkIndex_8e157 6 = .ok (.if_icmp .lt 10, 3) := by decide +kernel
theorem dJ3_checkIndex_8e157_9 : decode cJ3_checkIndex_8e157 9 = .ok (.aload_n 2, 1) := by decide +kernel
theorem dJ3_checkIndex_8e157_10 : decode cJ3_checkIndex_8e157 10 = .ok (.iload_n 0, 1) := by decide +kernel
theorem dJ3_checkIndex_8e157_11 : decode cJ3_checkIndex_8e157 11 = .ok (.iload_n 1, 1) := by decide +kernel
theorem dJ3_checkIndex_8e157_12 : decode cJ3_checkIndex_8e157 12 = .ok (.invokestatic 95, 3) := by decide +kernel
theorem dJ3_checkIndex_8e157_15 : decode cJ3_checkIndex_8e157 15 = .ok (.athrow, 1) := by decide +kernel
theorem dJ3_checkIndex_8e157_16 : decode cJ3_checkIndex_8e157 16 = .ok (.iload_n 0, 1) := by decide +kernel
theorem dJ3_checkIndex_8e157_17 : decode cJ3_checkIndex_8e157 17 = .ok (.ireturn, 1) := by decide +kernel
end
section
/-! THE G LAYER: an abstract heap as a function from addresses to things; one goal form GW; a row an instruction -/
abbrev hW : Type := Nat → Option va_E
def hup (h : hW) (a : Nat) (e : va_E) : hW := fun b => if b = a then some e else h b
theorem hup_s {h : hW} {a : Nat} {e : va_E} : hup h a e a = some e := by simp [hup]
theorem hup_n {h : hW} {a b : Nat} {e : va_E} (n : b ≠ a) : hup h a e b = h b := by simp [hup, n]
/-- the claim's constants: the classes' numbers, the array classes, the first new address, the old cells' addresses -/
abbrev gG : Type := va_G × (Nat → ClassId) × Nat × (Nat → Nat) × (Nat → Nat)
abbrev gA (G : gG) : Nat → Prop := fun q => G.2.2.1 ≤ q
def gTys (G : gG) : List (ClassId × FieldType) := [(G.2.1 0, .int), (G.2.1 1, .byte), (G.2.1 2, .long), (G.2.1 3, .boolean), (G.2.1 4, .object "java/lang/Object")]
abbrev aI (G : gG) (n : Nat) (f : Nat → Int32) : va_E := .inl (G.2.1 0, (n, .inl f))
abbrev aB (G : gG) (n : Nat) (f : Nat → Int32) : va_E := .inl (G.2.1 1, (n, .inl f))
abbrev aJ (G : gG) (n : Nat) (f : Nat → Int64) : va_E := .inl (G.2.1 2, (n, .inr (.inl f)))
abbrev aZ (G : gG) (n : Nat) (f : Nat → Int32) : va_E := .inl (G.2.1 3, (n, .inl f))
abbrev aO (G : gG) (n : Nat) (f : Nat → Option Nat) : va_E := .inl (G.2.1 4, (n, .inr (.inr (.inr (.inr f)))))
abbrev ob (ci : Nat) (fs : List Value) : va_E := .inr (ci, fs)
def gWo (G : gG) (h : hW) (H : Heap) : Prop := ∃ ws : va_W, va_P G.1 vwCl ws H ∧ va_D (gA G) ws ∧ ∀ (a : Nat) (e : va_E), h a = some e ↔ (a, e) ∈ ws
theorem gWo.one {G : gG} {h : hW} {H : Heap} (w : gWo G h H) {a : Nat} {e : va_E} (ha : h a = some e) : va_P G.1 vwCl [(a, e)] H := by
  obtain ⟨ws, hP, hD, hh⟩ := w
  obtain ⟨i, hi⟩ := List.getElem?_of_mem ((hh a e).mp ha)
  intro k q hk
  cases k with
  | zero => cases hk; exact hP i _ hi
  | succ k => simp at hk
theorem gWo.lt {G : gG} {h : hW} {H : Heap} (w : gWo G h H) {a : Nat} {e : va_E} (ha : h a = some e) : a < H.size := (w.one ha 0 _ rfl).lt
theorem gWo.inA {G : gG} {h : hW} {H : Heap} (w : gWo G h H) {a : Nat} {e : va_E} (ha : h a = some e) : gA G a := by
  obtain ⟨ws, hP, hD, hh⟩ := w
  obtain ⟨i, hi⟩ := List.getElem?_of_mem ((hh a e).mp ha)
  exact hD.2 i _ hi
theorem gset_spec {ws : va_W} {A : Nat → Prop} {h : hW} (hD : va_D A ws) (hh : ∀ (a : Nat) (e : va_E), h a = some e ↔ (a, e) ∈ ws) {i a : Nat} {e0 e1 : va_E} (hi : ws[i]? = some (a, e0)) (b : Nat) (e : va_E) : hup h a e1 b = some e ↔ (b, e) ∈ ws.set i (a, e1) := by
  have hl := (List.getElem?_eq_some_iff.mp hi).1
  unfold hup
  constructor
  · intro q
    by_cases hb : b = a
    · rw [if_pos hb] at q
      cases q
      subst hb
      exact List.mem_of_getElem? (i := i) (List.getElem?_set_self hl)
    · rw [if_neg hb] at q
      obtain ⟨j, hj⟩ := List.getElem?_of_mem ((hh b e).mp q)
      have hij : i ≠ j := by
        intro z
        subst z
        rw [hi] at hj
        cases hj
        exact hb rfl
      exact List.mem_of_getElem? (i := j) (by rw [List.getElem?_set_ne hij]; exact hj)
  · intro q
    obtain ⟨j, hj⟩ := List.getElem?_of_mem q
    by_cases hij : i = j
    · subst hij
      rw [List.getElem?_set_self hl] at hj
      cases hj
      rw [if_pos rfl]
    · rw [List.getElem?_set_ne hij] at hj
      have hb : b ≠ a := fun z => hij (hD.1 i j _ _ hi hj z.symm)
      rw [if_neg hb]
      exact (hh b e).mpr (List.mem_of_getElem? hj)
theorem gpush_spec {ws : va_W} {A : Nat → Prop} {h : hW} {q : Nat} {e0 : va_E} (hD : va_D A (ws ++ [(q, e0)])) (hh : ∀ (a : Nat) (e : va_E), h a = some e ↔ (a, e) ∈ ws) : h q = none ∧ ∀ (b : Nat) (e : va_E), hup h q e0 b = some e ↔ (b, e) ∈ ws ++ [(q, e0)] := by
  have hn : h q = none := by
    cases hq : h q with
    | none => rfl
    | some e =>
      obtain ⟨j, hj⟩ := List.getElem?_of_mem ((hh q e).mp hq)
      have hl := (List.getElem?_eq_some_iff.mp hj).1
      have h1 : (ws ++ [(q, e0)])[j]? = some (q, e) := by rw [List.getElem?_append_left hl]; exact hj
      have h2 : (ws ++ [(q, e0)])[ws.length]? = some (q, e0) := by rw [List.getElem?_append_right (Nat.le_refl _), Nat.sub_self]; rfl
      have := hD.1 _ _ _ _ h1 h2 rfl
      omega
  refine ⟨hn, fun b e => ?_⟩
  unfold hup
  rw [List.mem_append, List.mem_singleton]
  by_cases hb : b = q
  · subst hb
    rw [if_pos rfl]
    constructor
    · intro z; cases z; exact Or.inr rfl
    · rintro (z | z)
      · rw [(hh b e).mpr z] at hn; cases hn
      · cases z; rfl
  · rw [if_neg hb, hh b e]
    constructor
    · exact Or.inl
    · rintro (z | z)
      · exact z
      · cases z; exact absurd rfl hb
/-- what the old cells hold, and what the tables say, as long as nothing old is written -/
def gStr : List (String × Nat × String) := [("ComplaintDesk", 117, "no writer"), ("ComplaintDesk", 125, "the text is wrong"), ("ComplaintDesk", 127, "no more letters"), ("ComplaintDesk", 158, "no hours"), ("ComplaintDesk", 200, "nothing else is told of a point"), ("ComplaintDesk", 213, "nothing else is told of a letter"), ("ComplaintDesk", 231, "bits of no cause, or none"), ("ComplaintDesk", 248, "no such cause"), ("ComplaintDesk", 251, "no such letter"), ("ComplaintDesk", 253, "no such desk"), ("ComplaintDesk", 83, "no days"), ("ComplaintDesk", 98, "no more causes"), ("ComplaintDesk$Letter", 70, "no such point")]
def gSgn : List (String × Nat × String) := [("ComplaintDeskModel", 137, "and"), ("ComplaintDeskModel", 143, "or"), ("ComplaintDeskModel", 145, "not")]
def gLen : List Nat := [3, 2, 3]
def gByt : List (List Int32) := [[97, 110, 100], [111, 114], [110, 111, 116]]
def gOld (G : gG) (U : State) (H : Heap) : Prop :=
  G.2.2.1 ≤ H.size ∧ va_K G.1 vwCl (gTys G) U ∧
  (vx_Zq Bundle.tN "UNASSIGNED_STACK" Bundle.steD (gA G) U H ∧ vx_Zq Bundle.tN "SUPPRESSED_SENTINEL" Bundle.listD (gA G) U H) ∧
  (∀ q ∈ gStr, ∃ a, vk_R q.1 q.2.1 q.2.2 a U) ∧
  (∀ (i : Nat) (q : String × Nat × String), gSgn[i]? = some q → vk_R q.1 q.2.1 q.2.2 (G.2.2.2.1 i) U) ∧
  vk_S 3 gLen gByt G.2.2.2.1 G.2.2.2.2 (gA G) U H ∧
  va_Z "java/util/ArrayList" "DEFAULTCAPACITY_EMPTY_ELEMENTDATA" "[Ljava/lang/Object;" (.ref (G.2.2.2.1 3)) (gA G) U H ∧
  va_T (.object "java/lang/Object") (G.2.2.2.1 3) 0 (fun _ => .null) (gA G) U H
theorem gOld.move {G : gG} {u U : State} {H H1 : Heap} (h : gOld G u H) (hW : u.WarmedH U.vm) (hz : H.size ≤ H1.size) (hk : ∀ a : Nat, a < H.size → ¬ gA G a → H1[a]? = H[a]?) : gOld G U H1 := by
  obtain ⟨h1, h2, ⟨h3, h4⟩, h5, h6, h7, h8, h9⟩ := h
  have al := hW.alike
  exact ⟨Nat.le_trans h1 hz, va_K.moved al h2, ⟨vx_Zq.moved al (h3.kept hk), vx_Zq.moved al (h4.kept hk)⟩, fun q hq => by obtain ⟨a, ha⟩ := h5 q hq; exact ⟨a, ha.warm hW⟩, fun i q hq => (h6 i q hq).warm hW, vk_S.moved al (h7.kept hk), va_Z.moved al (h8.kept hk), va_T.moved al (h9.kept hk)⟩
theorem gOld.same {G : gG} {u U : State} {H : Heap} (h : gOld G u H) (hv : U.vm = u.vm) : gOld G U H :=
  h.move (by rw [hv]; exact State.WarmedH.refl u) (Nat.le_refl _) (fun _ _ _ => rfl)
abbrev gE : Type := Program × Launch × Env × Room × State × MethodId × Array Value × List Frame × Method × Code
abbrev gE.p (E : gE) : Program := E.1
abbrev gE.l (E : gE) : Launch := E.2.1
abbrev gE.e (E : gE) : Env := E.2.2.1
abbrev gE.R (E : gE) : Room := E.2.2.2.1
abbrev gE.s (E : gE) : State := E.2.2.2.2.1
abbrev gE.m (E : gE) : MethodId := E.2.2.2.2.2.1
abbrev gE.args (E : gE) : Array Value := E.2.2.2.2.2.2.1
abbrev gE.below (E : gE) : List Frame := E.2.2.2.2.2.2.2.1
abbrev gE.meth (E : gE) : Method := E.2.2.2.2.2.2.2.2.1
abbrev gE.c (E : gE) : Code := E.2.2.2.2.2.2.2.2.2
/-- the words that every method rests on -/
def uw : List Cond := lw_tbl.filter goodWord
theorem uw_good {w : Cond} (h : w ∈ uw) : (w.onTables && w.keeps) = true ∨ ∃ ty, w = .arrayClass ty := good_of_word (List.mem_filter.mp h).2
theorem uw_tbl {w : Cond} (h : w ∈ uw) : w ∈ lw_tbl := (List.mem_filter.mp h).1
theorem uw_at (i : Nat) {w : Cond} (h : lw_tbl[i]? = some w) (g : goodWord w = true) : w ∈ uw := List.mem_filter.mpr ⟨List.mem_of_getElem? h, g⟩
/-- a method's fixed things: its class, its code, its locals, its level and what it may make -/
def Gc (G : gG) (E : gE) (own : String) (cc : ByteArray) (nL lv mc ms : Nat) : Prop :=
  E.p.tables.exec = Jvm.exec ∧ E.c.code = cc ∧ E.c.maxLocals = nL ∧ E.s.vm.findClass own = some E.m.cls ∧ (∀ w ∈ uw, w.before E.args E.s = true) ∧ gOld G E.s E.s.heap ∧ E.meth.locks = false ∧ lv ≤ E.R.frames ∧ 100 * lv ≤ E.R.locals ∧ mc ≤ E.R.cells ∧ ms ≤ E.R.slots
def GW (G : gG) (E : gE) (Q : State → Prop) (nL pc : Nat) (L : List (Nat × Value)) (st : List Value) (h : hW) (k n : Nat) : Prop :=
  ∀ (H : Heap) (locs : List Loc) (ls : Array Slot), gWo G h H → va_S (gA G) E.s.heap H locs → lv_has ls nL L → W E.p E.l E.e E.R E.s E.m E.args E.below E.meth E.c H locs k n Q (F0 E.m pc ls st)
section GR
variable {G : gG} {E : gE} {own : String} {cc : ByteArray} {nL lv mc ms pc k n : Nat} {Q : State → Prop} {L : List (Nat × Value)} {st : List Value} {h : hW}
theorem g_iconst (X : Gc G E own cc nL lv mc ms) {z : Int} {v : Int32} (d : decode cc pc = .ok (.iconst z, 1)) (hv : Int32.ofInt z = v) (K : GW G E Q nL (pc + 1) L (.int v :: st) h k n) : GW G E Q nL pc L st h k n :=
  fun H locs ls a b c => lv_iconst X.1 X.2.1 d hv (K H locs ls a b c)
theorem g_bipush (X : Gc G E own cc nL lv mc ms) {z : Int} {v : Int32} (d : decode cc pc = .ok (.bipush z, 2)) (hv : (Int8.ofInt z).toInt32 = v) (K : GW G E Q nL (pc + 2) L (.int v :: st) h k n) : GW G E Q nL pc L st h k n :=
  fun H locs ls a b c => lv_bipush X.1 X.2.1 d hv (K H locs ls a b c)
theorem g_sipush (X : Gc G E own cc nL lv mc ms) {z : Int} {v : Int32} (d : decode cc pc = .ok (.sipush z, 3)) (hv : (Int16.ofInt z).toInt32 = v) (K : GW G E Q nL (pc + 3) L (.int v :: st) h k n) : GW G E Q nL pc L st h k n :=
  fun H locs ls a b c => lv_sipush X.1 X.2.1 d hv (K H locs ls a b c)
theorem g_lconst (X : Gc G E own cc nL lv mc ms) {z : Fin 2} {v : Int64} (d : decode cc pc = .ok (.lconst z, 1)) (hv : Int64.ofNat (z : Nat) = v) (K : GW G E Q nL (pc + 1) L (.long v :: st) h k n) : GW G E Q nL pc L st h k n :=
  fun H locs ls a b c => lv_lconst X.1 X.2.1 d hv (K H locs ls a b c)
theorem g_null (X : Gc G E own cc nL lv mc ms) (d : decode cc pc = .ok (.aconst_null, 1)) (K : GW G E Q nL (pc + 1) L (.null :: st) h k n) : GW G E Q nL pc L st h k n :=
  fun H locs ls a b c => lv_null X.1 X.2.1 d (K H locs ls a b c)
theorem g_iload_n (X : Gc G E own cc nL lv mc ms) {j : Fin 4} (d : decode cc pc = .ok (.iload_n j, 1)) (i : Nat) {x : Int32} (hi : L[i]? = some ((j : Nat), .int x)) (K : GW G E Q nL (pc + 1) L (.int x :: st) h k n) : GW G E Q nL pc L st h k n :=
  fun H locs ls a b c => lv_iload_n X.1 X.2.1 d rfl (lv_at c i hi) (K H locs ls a b c)
theorem g_iload (X : Gc G E own cc nL lv mc ms) {j : Nat} (d : decode cc pc = .ok (.iload j, 2)) (i : Nat) {x : Int32} (hi : L[i]? = some (j, .int x)) (K : GW G E Q nL (pc + 2) L (.int x :: st) h k n) : GW G E Q nL pc L st h k n :=
  fun H locs ls a b c => lv_iload X.1 X.2.1 d (lv_at c i hi) (K H locs ls a b c)
theorem g_lload_n (X : Gc G E own cc nL lv mc ms) {j : Fin 4} (d : decode cc pc = .ok (.lload_n j, 1)) (i : Nat) {x : Int64} (hi : L[i]? = some ((j : Nat), .long x)) (K : GW G E Q nL (pc + 1) L (.long x :: st) h k n) : GW G E Q nL pc L st h k n :=
  fun H locs ls a b c => lv_lload_n X.1 X.2.1 d rfl (lv_at c i hi) (K H locs ls a b c)
theorem g_lload (X : Gc G E own cc nL lv mc ms) {j : Nat} (d : decode cc pc = .ok (.lload j, 2)) (i : Nat) {x : Int64} (hi : L[i]? = some (j, .long x)) (K : GW G E Q nL (pc + 2) L (.long x :: st) h k n) : GW G E Q nL pc L st h k n :=
  fun H locs ls a b c => lv_lload X.1 X.2.1 d (lv_at c i hi) (K H locs ls a b c)
theorem g_aload_n (X : Gc G E own cc nL lv mc ms) {j : Fin 4} (d : decode cc pc = .ok (.aload_n j, 1)) (i : Nat) {x : Nat} (hi : L[i]? = some ((j : Nat), .ref x)) (K : GW G E Q nL (pc + 1) L (.ref x :: st) h k n) : GW G E Q nL pc L st h k n :=
  fun H locs ls a b c => lv_aload_n X.1 X.2.1 d rfl (lv_at c i hi) (K H locs ls a b c)
theorem g_aload (X : Gc G E own cc nL lv mc ms) {j : Nat} (d : decode cc pc = .ok (.aload j, 2)) (i : Nat) {x : Nat} (hi : L[i]? = some (j, .ref x)) (K : GW G E Q nL (pc + 2) L (.ref x :: st) h k n) : GW G E Q nL pc L st h k n :=
  fun H locs ls a b c => lv_aload X.1 X.2.1 d (lv_at c i hi) (K H locs ls a b c)
theorem g_aload_nQ (X : Gc G E own cc nL lv mc ms) {j : Fin 4} (d : decode cc pc = .ok (.aload_n j, 1)) (i : Nat) {x : Option Nat} (hi : L[i]? = some ((j : Nat), va_rf x)) (K : GW G E Q nL (pc + 1) L (va_rf x :: st) h k n) : GW G E Q nL pc L st h k n := by
  intro H locs ls a b c
  cases x with
  | none => exact lv_aload_nN X.1 X.2.1 d rfl (lv_at c i hi) (K H locs ls a b c)
  | some x => exact lv_aload_n X.1 X.2.1 d rfl (lv_at c i hi) (K H locs ls a b c)
theorem g_aloadQ (X : Gc G E own cc nL lv mc ms) {j : Nat} (d : decode cc pc = .ok (.aload j, 2)) (i : Nat) {x : Option Nat} (hi : L[i]? = some (j, va_rf x)) (K : GW G E Q nL (pc + 2) L (va_rf x :: st) h k n) : GW G E Q nL pc L st h k n := by
  intro H locs ls a b c
  cases x with
  | none => exact lv_aloadN X.1 X.2.1 d (lv_at c i hi) (K H locs ls a b c)
  | some x => exact lv_aload X.1 X.2.1 d (lv_at c i hi) (K H locs ls a b c)
abbrev g1 (L : List (Nat × Value)) (i : Nat) (v : Value) : List (Nat × Value) := (i, v) :: L.filter (fun q => !(q.1 == i) && !(q.1 + 1 == i && q.2.category == 2))
abbrev g2 (L : List (Nat × Value)) (i : Nat) (v : Value) : List (Nat × Value) := (i, v) :: L.filter (fun q => !(q.1 == i) && (!(q.1 == i + 1) && !(q.1 + 1 == i && q.2.category == 2)))
theorem g_istore_n (X : Gc G E own cc nL lv mc ms) {j : Fin 4} {x : Int32} (d : decode cc pc = .ok (.istore_n j, 1)) (hn : (j : Nat) < nL) (L' : List (Nat × Value)) (hl : g1 L (j : Nat) (.int x) = L') (K : GW G E Q nL (pc + 1) L' st h k n) : GW G E Q nL pc L (.int x :: st) h k n :=
  fun H locs ls a b c => lv_istore_n X.1 X.2.1 d rfl c hn hl (fun ls c => K H locs ls a b c)
theorem g_istore (X : Gc G E own cc nL lv mc ms) {j : Nat} {x : Int32} (d : decode cc pc = .ok (.istore j, 2)) (hn : j < nL) (L' : List (Nat × Value)) (hl : g1 L j (.int x) = L') (K : GW G E Q nL (pc + 2) L' st h k n) : GW G E Q nL pc L (.int x :: st) h k n :=
  fun H locs ls a b c => lv_istore X.1 X.2.1 d c hn hl (fun ls c => K H locs ls a b c)
theorem g_lstore_n (X : Gc G E own cc nL lv mc ms) {j : Fin 4} {x : Int64} (d : decode cc pc = .ok (.lstore_n j, 1)) (hn : (j : Nat) + 1 < nL) (L' : List (Nat × Value)) (hl : g2 L (j : Nat) (.long x) = L') (K : GW G E Q nL (pc + 1) L' st h k n) : GW G E Q nL pc L (.long x :: st) h k n :=
  fun H locs ls a b c => lv_lstore_n X.1 X.2.1 d rfl c hn hl (fun ls c => K H locs ls a b c)
theorem g_lstore (X : Gc G E own cc nL lv mc ms) {j : Nat} {x : Int64} (d : decode cc pc = .ok (.lstore j, 2)) (hn : j + 1 < nL) (L' : List (Nat × Value)) (hl : g2 L j (.long x) = L') (K : GW G E Q nL (pc + 2) L' st h k n) : GW G E Q nL pc L (.long x :: st) h k n :=
  fun H locs ls a b c => lv_lstore X.1 X.2.1 d c hn hl (fun ls c => K H locs ls a b c)
theorem g_astore_n (X : Gc G E own cc nL lv mc ms) {j : Fin 4} {x : Nat} (d : decode cc pc = .ok (.astore_n j, 1)) (hn : (j : Nat) < nL) (L' : List (Nat × Value)) (hl : g1 L (j : Nat) (.ref x) = L') (K : GW G E Q nL (pc + 1) L' st h k n) : GW G E Q nL pc L (.ref x :: st) h k n :=
  fun H locs ls a b c => lv_astore_n X.1 X.2.1 d rfl c hn hl (fun ls c => K H locs ls a b c)
theorem g_astore (X : Gc G E own cc nL lv mc ms) {j : Nat} {x : Nat} (d : decode cc pc = .ok (.astore j, 2)) (hn : j < nL) (L' : List (Nat × Value)) (hl : g1 L j (.ref x) = L') (K : GW G E Q nL (pc + 2) L' st h k n) : GW G E Q nL pc L (.ref x :: st) h k n :=
  fun H locs ls a b c => lv_astore X.1 X.2.1 d c hn hl (fun ls c => K H locs ls a b c)
theorem g_astore_nQ (X : Gc G E own cc nL lv mc ms) {j : Fin 4} {x : Option Nat} (d : decode cc pc = .ok (.astore_n j, 1)) (hn : (j : Nat) < nL) (L' : List (Nat × Value)) (hl : g1 L (j : Nat) (va_rf x) = L') (K : GW G E Q nL (pc + 1) L' st h k n) : GW G E Q nL pc L (va_rf x :: st) h k n := by
  intro H locs ls a b c
  cases x with
  | none => exact lv_astore_nN X.1 X.2.1 d rfl c hn hl (fun ls c => K H locs ls a b c)
  | some x => exact lv_astore_n X.1 X.2.1 d rfl c hn hl (fun ls c => K H locs ls a b c)
theorem g_astoreQ (X : Gc G E own cc nL lv mc ms) {j : Nat} {x : Option Nat} (d : decode cc pc = .ok (.astore j, 2)) (hn : j < nL) (L' : List (Nat × Value)) (hl : g1 L j (va_rf x) = L') (K : GW G E Q nL (pc + 2) L' st h k n) : GW G E Q nL pc L (va_rf x :: st) h k n := by
  intro H locs ls a b c
  cases x with
  | none => exact lv_astoreN X.1 X.2.1 d c hn hl (fun ls c => K H locs ls a b c)
  | some x => exact lv_astore X.1 X.2.1 d c hn hl (fun ls c => K H locs ls a b c)
theorem g_iinc (X : Gc G E own cc nL lv mc ms) {j : Nat} {z : Int} {x v : Int32} (d : decode cc pc = .ok (.iinc j z, 3)) (i : Nat) (hi : L[i]? = some (j, .int x)) (hv : x + Int32.ofInt z = v) (hn : j < nL) (L' : List (Nat × Value)) (hl : g1 L j (.int v) = L') (K : GW G E Q nL (pc + 3) L' st h k n) : GW G E Q nL pc L st h k n :=
  fun H locs ls a b c => lv_iinc X.1 X.2.1 d c (k := i) hi hv hn hl (fun ls c => K H locs ls a b c)
theorem g_iadd (X : Gc G E own cc nL lv mc ms) {x y : Int32} (d : decode cc pc = .ok (.iadd, 1))  (K : GW G E Q nL (pc + 1) L (.int (x + y) :: st) h k n) : GW G E Q nL pc L (.int y :: .int x :: st) h k n :=
  fun H locs ls a b c => lv_iadd X.1 X.2.1 d (K H locs ls a b c)
theorem g_isub (X : Gc G E own cc nL lv mc ms) {x y : Int32} (d : decode cc pc = .ok (.isub, 1))  (K : GW G E Q nL (pc + 1) L (.int (x - y) :: st) h k n) : GW G E Q nL pc L (.int y :: .int x :: st) h k n :=
  fun H locs ls a b c => lv_isub X.1 X.2.1 d (K H locs ls a b c)
theorem g_imul (X : Gc G E own cc nL lv mc ms) {x y : Int32} (d : decode cc pc = .ok (.imul, 1))  (K : GW G E Q nL (pc + 1) L (.int (x * y) :: st) h k n) : GW G E Q nL pc L (.int y :: .int x :: st) h k n :=
  fun H locs ls a b c => lv_imul X.1 X.2.1 d (K H locs ls a b c)
theorem g_iand (X : Gc G E own cc nL lv mc ms) {x y : Int32} (d : decode cc pc = .ok (.iand, 1))  (K : GW G E Q nL (pc + 1) L (.int (x &&& y) :: st) h k n) : GW G E Q nL pc L (.int y :: .int x :: st) h k n :=
  fun H locs ls a b c => lv_iand X.1 X.2.1 d (K H locs ls a b c)
theorem g_ior (X : Gc G E own cc nL lv mc ms) {x y : Int32} (d : decode cc pc = .ok (.ior, 1))  (K : GW G E Q nL (pc + 1) L (.int (x ||| y) :: st) h k n) : GW G E Q nL pc L (.int y :: .int x :: st) h k n :=
  fun H locs ls a b c => lv_ior X.1 X.2.1 d (K H locs ls a b c)
theorem g_ixor (X : Gc G E own cc nL lv mc ms) {x y : Int32} (d : decode cc pc = .ok (.ixor, 1))  (K : GW G E Q nL (pc + 1) L (.int (x ^^^ y) :: st) h k n) : GW G E Q nL pc L (.int y :: .int x :: st) h k n :=
  fun H locs ls a b c => lv_ixor X.1 X.2.1 d (K H locs ls a b c)
theorem g_ishl (X : Gc G E own cc nL lv mc ms) {x y : Int32} (d : decode cc pc = .ok (.ishl, 1))  (K : GW G E Q nL (pc + 1) L (.int (x <<< (y &&& 31)) :: st) h k n) : GW G E Q nL pc L (.int y :: .int x :: st) h k n :=
  fun H locs ls a b c => lv_ishl X.1 X.2.1 d (K H locs ls a b c)
theorem g_ishr (X : Gc G E own cc nL lv mc ms) {x y : Int32} (d : decode cc pc = .ok (.ishr, 1))  (K : GW G E Q nL (pc + 1) L (.int (x >>> (y &&& 31)) :: st) h k n) : GW G E Q nL pc L (.int y :: .int x :: st) h k n :=
  fun H locs ls a b c => lv_ishr X.1 X.2.1 d (K H locs ls a b c)
theorem g_ladd (X : Gc G E own cc nL lv mc ms) {x y : Int64} (d : decode cc pc = .ok (.ladd, 1))  (K : GW G E Q nL (pc + 1) L (.long (x + y) :: st) h k n) : GW G E Q nL pc L (.long y :: .long x :: st) h k n :=
  fun H locs ls a b c => lv_ladd X.1 X.2.1 d (K H locs ls a b c)
theorem g_idiv (X : Gc G E own cc nL lv mc ms) {x y : Int32} (d : decode cc pc = .ok (.idiv, 1)) (hne : ¬ y = 0) (K : GW G E Q nL (pc + 1) L (.int (x / y) :: st) h k n) : GW G E Q nL pc L (.int y :: .int x :: st) h k n :=
  fun H locs ls a b c => lv_idiv X.1 X.2.1 d hne (K H locs ls a b c)
theorem g_irem (X : Gc G E own cc nL lv mc ms) {x y : Int32} (d : decode cc pc = .ok (.irem, 1)) (hne : ¬ y = 0) (K : GW G E Q nL (pc + 1) L (.int (x - x / y * y) :: st) h k n) : GW G E Q nL pc L (.int y :: .int x :: st) h k n :=
  fun H locs ls a b c => lv_irem X.1 X.2.1 d hne (K H locs ls a b c)
theorem g_iushr (X : Gc G E own cc nL lv mc ms) {x y : Int32} (d : decode cc pc = .ok (.iushr, 1))  (K : GW G E Q nL (pc + 1) L (.int (x.toUInt32 >>> (y.toUInt32 &&& Int32.toUInt32 31)).toInt32 :: st) h k n) : GW G E Q nL pc L (.int y :: .int x :: st) h k n :=
  fun H locs ls a b c => lv_iushr X.1 X.2.1 d rfl (K H locs ls a b c)
theorem g_lshl (X : Gc G E own cc nL lv mc ms) {x : Int64} {y : Int32} (d : decode cc pc = .ok (.lshl, 1))  (K : GW G E Q nL (pc + 1) L (.long (x <<< (y.toInt64 &&& 63)) :: st) h k n) : GW G E Q nL pc L (.int y :: .long x :: st) h k n :=
  fun H locs ls a b c => lv_lshl X.1 X.2.1 d rfl (K H locs ls a b c)
theorem g_i2l (X : Gc G E own cc nL lv mc ms) {x : Int32} (d : decode cc pc = .ok (.i2l, 1))  (K : GW G E Q nL (pc + 1) L (.long x.toInt64 :: st) h k n) : GW G E Q nL pc L (.int x :: st) h k n :=
  fun H locs ls a b c => lv_i2l X.1 X.2.1 d rfl (K H locs ls a b c)
theorem g_i2b (X : Gc G E own cc nL lv mc ms) {x : Int32} (d : decode cc pc = .ok (.i2b, 1))  (K : GW G E Q nL (pc + 1) L (.int x.toInt8.toInt32 :: st) h k n) : GW G E Q nL pc L (.int x :: st) h k n :=
  fun H locs ls a b c => lv_i2b X.1 X.2.1 d rfl (K H locs ls a b c)
theorem g_i2c (X : Gc G E own cc nL lv mc ms) {x : Int32} (d : decode cc pc = .ok (.i2c, 1))  (K : GW G E Q nL (pc + 1) L (.int (x.toUInt32 % 65536).toInt32 :: st) h k n) : GW G E Q nL pc L (.int x :: st) h k n :=
  fun H locs ls a b c => lv_i2c X.1 X.2.1 d rfl (K H locs ls a b c)
theorem g_lcmp (X : Gc G E own cc nL lv mc ms) {x y : Int64} (d : decode cc pc = .ok (.lcmp, 1))  (K : GW G E Q nL (pc + 1) L (.int (lg_cmp x y) :: st) h k n) : GW G E Q nL pc L (.long y :: .long x :: st) h k n :=
  fun H locs ls a b c => W.lcmp X.1 X.2.1 d (K H locs ls a b c)
theorem g_dup (X : Gc G E own cc nL lv mc ms) {v : Value} (d : decode cc pc = .ok (.dup, 1)) (hv : v.category = 1) (K : GW G E Q nL (pc + 1) L (v :: v :: st) h k n) : GW G E Q nL pc L (v :: st) h k n :=
  fun H locs ls a b c => lv_dup X.1 X.2.1 d hv (K H locs ls a b c)
theorem g_pop (X : Gc G E own cc nL lv mc ms) {v : Value} (d : decode cc pc = .ok (.pop, 1)) (hv : v.category = 1) (K : GW G E Q nL (pc + 1) L (st) h k n) : GW G E Q nL pc L (v :: st) h k n :=
  fun H locs ls a b c => lv_pop X.1 X.2.1 d hv (K H locs ls a b c)
theorem g_dup_x1 (X : Gc G E own cc nL lv mc ms) {v w : Value} (d : decode cc pc = .ok (.dup_x1, 1)) (hv : v.category = 1) (hw : w.category = 1) (K : GW G E Q nL (pc + 1) L (v :: w :: v :: st) h k n) : GW G E Q nL pc L (v :: w :: st) h k n :=
  fun H locs ls a b c => lv_dup_x1 X.1 X.2.1 d hv hw (K H locs ls a b c)
theorem g_dup2 (X : Gc G E own cc nL lv mc ms) {v w : Value} (d : decode cc pc = .ok (.dup2, 1)) (hv : v.category = 1) (hw : w.category = 1) (K : GW G E Q nL (pc + 1) L (v :: w :: v :: w :: st) h k n) : GW G E Q nL pc L (v :: w :: st) h k n :=
  fun H locs ls a b c => lv_dup2_11 X.1 X.2.1 d hv hw (K H locs ls a b c)
theorem g_ldc (X : Gc G E own cc nL lv mc ms) {v : Int32} {idx : Nat} (d : decode cc pc = .ok (.ldc idx, 2)) (hc : Cond.constant own idx v ∈ uw) (K : GW G E Q nL (pc + 2) L (.int v :: st) h k n) : GW G E Q nL pc L (st) h k n :=
  fun H locs ls a b c => lv_ldc X.1 X.2.1 X.2.2.2.1 (X.2.2.2.2.1 _ hc) d (K H locs ls a b c)
theorem g_ldc2 (X : Gc G E own cc nL lv mc ms) {v : Int64} {idx : Nat} (d : decode cc pc = .ok (.ldc2_w idx, 3)) (hc : Cond.constantLong own idx v ∈ uw) (K : GW G E Q nL (pc + 3) L (.long v :: st) h k n) : GW G E Q nL pc L (st) h k n :=
  fun H locs ls a b c => lv_ldc2 X.1 X.2.1 X.2.2.2.1 (X.2.2.2.2.1 _ hc) d (K H locs ls a b c)
theorem g_goto (X : Gc G E own cc nL lv mc ms) {off : Int} (tgt : Nat) (d : decode cc pc = .ok (.goto off, 3)) (ht : (pc : Int) + off = (tgt : Int)) (K : GW G E Q nL tgt L st h k n) : GW G E Q nL pc L st h k n :=
  fun H locs ls a b c => lv_goto X.1 X.2.1 d ht (K H locs ls a b c)
theorem g_if_eq (X : Gc G E own cc nL lv mc ms) {x : Int32} {off : Int} (tgt : Nat) (d : decode cc pc = .ok (.ifCond .eq off, 3)) (ht : (pc : Int) + off = (tgt : Int)) (kt : x = 0 → GW G E Q nL tgt L st h k n) (kf : ¬ x = 0 → GW G E Q nL (pc + 3) L st h k n) : GW G E Q nL pc L (.int x :: st) h k n :=
  fun H locs ls a b c => lv_if_eq X.1 X.2.1 d ht (fun q => kt q H locs ls a b c) (fun q => kf q H locs ls a b c)
theorem g_icmp_eq (X : Gc G E own cc nL lv mc ms) {x y : Int32} {off : Int} (tgt : Nat) (d : decode cc pc = .ok (.if_icmp .eq off, 3)) (ht : (pc : Int) + off = (tgt : Int)) (kt : x = y → GW G E Q nL tgt L st h k n) (kf : ¬ x = y → GW G E Q nL (pc + 3) L st h k n) : GW G E Q nL pc L (.int y :: .int x :: st) h k n :=
  fun H locs ls a b c => lv_icmp_eq X.1 X.2.1 d ht (fun q => kt q H locs ls a b c) (fun q => kf q H locs ls a b c)
theorem g_if_ne (X : Gc G E own cc nL lv mc ms) {x : Int32} {off : Int} (tgt : Nat) (d : decode cc pc = .ok (.ifCond .ne off, 3)) (ht : (pc : Int) + off = (tgt : Int)) (kt : ¬ x = 0 → GW G E Q nL tgt L st h k n) (kf : x = 0 → GW G E Q nL (pc + 3) L st h k n) : GW G E Q nL pc L (.int x :: st) h k n :=
  fun H locs ls a b c => lv_if_ne X.1 X.2.1 d ht (fun q => kt q H locs ls a b c) (fun q => kf q H locs ls a b c)
theorem g_icmp_ne (X : Gc G E own cc nL lv mc ms) {x y : Int32} {off : Int} (tgt : Nat) (d : decode cc pc = .ok (.if_icmp .ne off, 3)) (ht : (pc : Int) + off = (tgt : Int)) (kt : ¬ x = y → GW G E Q nL tgt L st h k n) (kf : x = y → GW G E Q nL (pc + 3) L st h k n) : GW G E Q nL pc L (.int y :: .int x :: st) h k n :=
  fun H locs ls a b c => lv_icmp_ne X.1 X.2.1 d ht (fun q => kt q H locs ls a b c) (fun q => kf q H locs ls a b c)
theorem g_if_lt (X : Gc G E own cc nL lv mc ms) {x : Int32} {off : Int} (tgt : Nat) (d : decode cc pc = .ok (.ifCond .lt off, 3)) (ht : (pc : Int) + off = (tgt : Int)) (kt : x < 0 → GW G E Q nL tgt L st h k n) (kf : ¬ x < 0 → GW G E Q nL (pc + 3) L st h k n) : GW G E Q nL pc L (.int x :: st) h k n :=
  fun H locs ls a b c => lv_if_lt X.1 X.2.1 d ht (fun q => kt q H locs ls a b c) (fun q => kf q H locs ls a b c)
theorem g_icmp_lt (X : Gc G E own cc nL lv mc ms) {x y : Int32} {off : Int} (tgt : Nat) (d : decode cc pc = .ok (.if_icmp .lt off, 3)) (ht : (pc : Int) + off = (tgt : Int)) (kt : x < y → GW G E Q nL tgt L st h k n) (kf : ¬ x < y → GW G E Q nL (pc + 3) L st h k n) : GW G E Q nL pc L (.int y :: .int x :: st) h k n :=
  fun H locs ls a b c => lv_icmp_lt X.1 X.2.1 d ht (fun q => kt q H locs ls a b c) (fun q => kf q H locs ls a b c)
theorem g_if_ge (X : Gc G E own cc nL lv mc ms) {x : Int32} {off : Int} (tgt : Nat) (d : decode cc pc = .ok (.ifCond .ge off, 3)) (ht : (pc : Int) + off = (tgt : Int)) (kt : 0 ≤ x → GW G E Q nL tgt L st h k n) (kf : ¬ 0 ≤ x → GW G E Q nL (pc + 3) L st h k n) : GW G E Q nL pc L (.int x :: st) h k n :=
  fun H locs ls a b c => lv_if_ge X.1 X.2.1 d ht (fun q => kt q H locs ls a b c) (fun q => kf q H locs ls a b c)
theorem g_icmp_ge (X : Gc G E own cc nL lv mc ms) {x y : Int32} {off : Int} (tgt : Nat) (d : decode cc pc = .ok (.if_icmp .ge off, 3)) (ht : (pc : Int) + off = (tgt : Int)) (kt : y ≤ x → GW G E Q nL tgt L st h k n) (kf : ¬ y ≤ x → GW G E Q nL (pc + 3) L st h k n) : GW G E Q nL pc L (.int y :: .int x :: st) h k n :=
  fun H locs ls a b c => lv_icmp_ge X.1 X.2.1 d ht (fun q => kt q H locs ls a b c) (fun q => kf q H locs ls a b c)
theorem g_if_gt (X : Gc G E own cc nL lv mc ms) {x : Int32} {off : Int} (tgt : Nat) (d : decode cc pc = .ok (.ifCond .gt off, 3)) (ht : (pc : Int) + off = (tgt : Int)) (kt : 0 < x → GW G E Q nL tgt L st h k n) (kf : ¬ 0 < x → GW G E Q nL (pc + 3) L st h k n) : GW G E Q nL pc L (.int x :: st) h k n :=
  fun H locs ls a b c => lv_if_gt X.1 X.2.1 d ht (fun q => kt q H locs ls a b c) (fun q => kf q H locs ls a b c)
theorem g_icmp_gt (X : Gc G E own cc nL lv mc ms) {x y : Int32} {off : Int} (tgt : Nat) (d : decode cc pc = .ok (.if_icmp .gt off, 3)) (ht : (pc : Int) + off = (tgt : Int)) (kt : y < x → GW G E Q nL tgt L st h k n) (kf : ¬ y < x → GW G E Q nL (pc + 3) L st h k n) : GW G E Q nL pc L (.int y :: .int x :: st) h k n :=
  fun H locs ls a b c => lv_icmp_gt X.1 X.2.1 d ht (fun q => kt q H locs ls a b c) (fun q => kf q H locs ls a b c)
theorem g_if_le (X : Gc G E own cc nL lv mc ms) {x : Int32} {off : Int} (tgt : Nat) (d : decode cc pc = .ok (.ifCond .le off, 3)) (ht : (pc : Int) + off = (tgt : Int)) (kt : x ≤ 0 → GW G E Q nL tgt L st h k n) (kf : ¬ x ≤ 0 → GW G E Q nL (pc + 3) L st h k n) : GW G E Q nL pc L (.int x :: st) h k n :=
  fun H locs ls a b c => lv_if_le X.1 X.2.1 d ht (fun q => kt q H locs ls a b c) (fun q => kf q H locs ls a b c)
theorem g_icmp_le (X : Gc G E own cc nL lv mc ms) {x y : Int32} {off : Int} (tgt : Nat) (d : decode cc pc = .ok (.if_icmp .le off, 3)) (ht : (pc : Int) + off = (tgt : Int)) (kt : x ≤ y → GW G E Q nL tgt L st h k n) (kf : ¬ x ≤ y → GW G E Q nL (pc + 3) L st h k n) : GW G E Q nL pc L (.int y :: .int x :: st) h k n :=
  fun H locs ls a b c => lv_icmp_le X.1 X.2.1 d ht (fun q => kt q H locs ls a b c) (fun q => kf q H locs ls a b c)
theorem g_acmp_eq (X : Gc G E own cc nL lv mc ms) {rx ry : Option Nat} {vx vy : Value} {off : Int} (tgt : Nat) (d : decode cc pc = .ok (.if_acmp .eq off, 3)) (ht : (pc : Int) + off = (tgt : Int)) (hx : va_rf rx = vx) (hy : va_rf ry = vy) (kt : rx = ry → GW G E Q nL tgt L st h k n) (kf : ¬ rx = ry → GW G E Q nL (pc + 3) L st h k n) : GW G E Q nL pc L (vy :: vx :: st) h k n := by
  subst hx; subst hy
  exact fun H locs ls a b c => lv_acmp_eq X.1 X.2.1 d ht (fun q => kt q H locs ls a b c) (fun q => kf q H locs ls a b c)
theorem g_acmp_ne (X : Gc G E own cc nL lv mc ms) {rx ry : Option Nat} {vx vy : Value} {off : Int} (tgt : Nat) (d : decode cc pc = .ok (.if_acmp .ne off, 3)) (ht : (pc : Int) + off = (tgt : Int)) (hx : va_rf rx = vx) (hy : va_rf ry = vy) (kt : ¬ rx = ry → GW G E Q nL tgt L st h k n) (kf : rx = ry → GW G E Q nL (pc + 3) L st h k n) : GW G E Q nL pc L (vy :: vx :: st) h k n := by
  subst hx; subst hy
  exact fun H locs ls a b c => lv_acmp_ne X.1 X.2.1 d ht (fun q => kt q H locs ls a b c) (fun q => kf q H locs ls a b c)
theorem g_ifnull (X : Gc G E own cc nL lv mc ms) {x : Option Nat} {v : Value} {off : Int} (tgt : Nat) (d : decode cc pc = .ok (.ifnull off, 3)) (ht : (pc : Int) + off = (tgt : Int)) (hv : va_rf x = v) (kt : x = none → GW G E Q nL tgt L st h k n) (kf : ∀ y, x = some y → GW G E Q nL (pc + 3) L st h k n) : GW G E Q nL pc L (v :: st) h k n := by
  subst hv
  intro H locs ls a b c
  cases x with
  | none => exact lv_ifnullN X.1 X.2.1 d ht (kt rfl H locs ls a b c)
  | some y => exact lv_ifnull X.1 X.2.1 d (kf y rfl H locs ls a b c)
theorem g_ifnonnull (X : Gc G E own cc nL lv mc ms) {x : Option Nat} {v : Value} {off : Int} (tgt : Nat) (d : decode cc pc = .ok (.ifnonnull off, 3)) (ht : (pc : Int) + off = (tgt : Int)) (hv : va_rf x = v) (kt : ∀ y, x = some y → GW G E Q nL tgt L st h k n) (kf : x = none → GW G E Q nL (pc + 3) L st h k n) : GW G E Q nL pc L (v :: st) h k n := by
  subst hv
  intro H locs ls a b c
  cases x with
  | none => exact lv_ifnonnullN X.1 X.2.1 d (kf rfl H locs ls a b c)
  | some y => exact lv_ifnonnull X.1 X.2.1 d ht (kt y rfl H locs ls a b c)
theorem g_topi {x : Int32} (K : ∀ y : Int32, y = x → GW G E Q nL pc L (.int y :: st) h k n) : GW G E Q nL pc L (.int x :: st) h k n := K x rfl
theorem g_topl {x : Int64} (K : ∀ y : Int64, y = x → GW G E Q nL pc L (.long y :: st) h k n) : GW G E Q nL pc L (.long x :: st) h k n := K x rfl
theorem g_pc {pc' : Nat} (e : pc = pc') (K : GW G E Q nL pc' L st h k n) : GW G E Q nL pc L st h k n := e ▸ K
theorem g_L {L' : List (Nat × Value)} (ks : List Nat) (e : lv_pick L ks = L') (K : GW G E Q nL pc L' st h k n) : GW G E Q nL pc L st h k n := fun H locs ls a b c => K H locs ls a b (lv_sub c ks e)
theorem g_widen {k' n' : Nat} (hk : k ≤ k') (hn : n ≤ n') (K : GW G E Q nL pc L st h k' n') : GW G E Q nL pc L st h k n := fun H locs ls a b c => W.widen hk hn (K H locs ls a b c)
theorem g_st {st' : List Value} (e : st = st') (K : GW G E Q nL pc L st' h k n) : GW G E Q nL pc L st h k n := e ▸ K
theorem g_h {h' : hW} (e : h = h') (K : GW G E Q nL pc L st h' k n) : GW G E Q nL pc L st h k n := e ▸ K
/-- a class of the worlds: its number, its name, its table -/
def CK (ci : Nat) (C : String) (T : u_T) (N : Nat) (ty0 : Nat → FieldType) : Prop := vwCl[ci]? = some (C, T, N) ∧ (∀ w ∈ u_ws C T N, w ∈ uw) ∧ (∀ k, k < N → parseFieldDescriptor (T k).2.2.1 = some (ty0 k)) ∧ (∀ a, a < N → ∀ b, b < N → a ≠ b → (T a).2.1 ≠ (T b).2.1)
/-- a field's link: of the class own by its entry idx: the field j of kind ci -/
def FL (own : String) (idx ci j : Nat) (ty : FieldType) (fin : Bool) : Prop := ∃ (C : String) (T : u_T) (N : Nat) (ty0 : Nat → FieldType), CK ci C T N ty0 ∧ j < N ∧ Cond.fieldLink own idx (T j).1 (T j).2.1 (T j).2.2.1 ∈ uw ∧ (T j).2.2.2 = fin ∧ parseFieldDescriptor (T j).2.2.1 = some ty ∧ (fin = true → (T j).1 = own)
def FR (own : String) (idx ci j : Nat) : Prop := ∃ (C : String) (T : u_T) (N : Nat) (ty0 : Nat → FieldType), CK ci C T N ty0 ∧ j < N ∧ Cond.fieldLink own idx (T j).1 (T j).2.1 (T j).2.2.1 ∈ uw
theorem FL.r {own : String} {idx ci j : Nat} {ty : FieldType} {fin : Bool} (f : FL own idx ci j ty fin) : FR own idx ci j := by
  obtain ⟨C, T, N, ty0, c, f1, f2, -⟩ := f
  exact ⟨C, T, N, ty0, c, f1, f2⟩
theorem g_getfield (X : Gc G E own cc nL lv mc ms) {idx ci j : Nat} (fl : FR own idx ci j) {a : Nat} {fs : List Value} {v : Value} (d : decode cc pc = .ok (.getfield idx, 3)) (ha : h a = some (ob ci fs)) (hv : fs[j]? = some v) (K : GW G E Q nL (pc + 3) L (v :: st) h k n) : GW G E Q nL pc L (.ref a :: st) h k n := by
  intro H locs ls w b c
  obtain ⟨C, T, N, ty0, ⟨c1, c2, c3, c4⟩, f1, f2⟩ := fl
  exact va_get (C := C) (T := T) (N := N) (ref := (T j).1) X.1 X.2.1 (Ts := uw) X.2.2.2.2.1 c2 X.2.2.2.1 X.2.2.2.2.2.1.2.1 (w.one ha) 0 rfl c1 j f1 (X.2.2.2.2.1 _ f2) (fun _ q => q) hv d (K H locs ls w b c)
theorem g_putfield (X : Gc G E own cc nL lv mc ms) {idx ci j : Nat} {ty : FieldType} (fl : FL own idx ci j ty false) {a : Nat} {fs : List Value} {v : Value} (d : decode cc pc = .ok (.putfield idx, 3)) (ha : h a = some (ob ci fs)) (hl : j < fs.length) (hn : narrow ty v = v) (hf : fits ty v = true) (fs' : List Value) (he : fs.set j v = fs') (K : GW G E Q nL (pc + 3) L st (hup h a (ob ci fs')) k n) : GW G E Q nL pc L (v :: .ref a :: st) h k n := by
  intro H locs ls w b c
  obtain ⟨C, T, N, ty0, ⟨c1, c2, c3, c4⟩, f1, f2, f3, f4, f5⟩ := fl
  obtain ⟨ws, hP, hD, hh⟩ := w
  obtain ⟨i, hi⟩ := List.getElem?_of_mem ((hh a _).mp ha)
  subst he
  exact va_put (C := C) (T := T) (N := N) (ref := (T j).1) X.1 X.2.1 (Ts := uw) X.2.2.2.2.1 c2 ty0 c3 c4 X.2.2.2.1 X.2.2.2.2.2.1.2.1 hP hD b i hi c1 j f1 (X.2.2.2.2.1 _ f2) (fun _ q => q) f3 f4 hn hf hl d (fun H1 locs1 p1 p2 p3 => K H1 locs1 ls ⟨_, p1, p2, gset_spec hD hh hi⟩ p3 c)
theorem g_putfieldF (X : Gc G E own cc nL lv mc ms) (hin : E.meth.name = "<init>") {idx ci j : Nat} {ty : FieldType} (fl : FL own idx ci j ty true) {a : Nat} {fs : List Value} {v : Value} (d : decode cc pc = .ok (.putfield idx, 3)) (ha : h a = some (ob ci fs)) (hl : j < fs.length) (hn : narrow ty v = v) (hf : fits ty v = true) (fs' : List Value) (he : fs.set j v = fs') (K : GW G E Q nL (pc + 3) L st (hup h a (ob ci fs')) k n) : GW G E Q nL pc L (v :: .ref a :: st) h k n := by
  intro H locs ls w b c
  obtain ⟨C, T, N, ty0, ⟨c1, c2, c3, c4⟩, f1, f2, f3, f4, f5⟩ := fl
  obtain ⟨ws, hP, hD, hh⟩ := w
  obtain ⟨i, hi⟩ := List.getElem?_of_mem ((hh a _).mp ha)
  subst he
  exact va_putF (C := C) (T := T) (N := N) (ref := (T j).1) X.1 X.2.1 (Ts := uw) X.2.2.2.2.1 c2 ty0 c3 c4 X.2.2.2.1 X.2.2.2.2.2.1.2.1 hP hD b i hi c1 j f1 (X.2.2.2.2.1 _ f2) (fun _ q => q) f3 hin (f5 rfl) f4 hn hf hl d (fun H1 locs1 p1 p2 p3 => K H1 locs1 ls ⟨_, p1, p2, gset_spec hD hh hi⟩ p3 c)
theorem g_new (X : Gc G E own cc nL lv mc ms) {idx ci N : Nat} {C : String} {T : u_T} {ty0 : Nat → FieldType} (ck : CK ci C T N ty0) (w1 : Cond.classLink own idx C ∈ uw) (w2 : Cond.instantiable C N ∈ uw) (w3 : Cond.initialized C ∈ uw) (fs : List Value) (hfs : ∀ j, j < N → defaultValue (ty0 j) = vp_V fs j) (d : decode cc pc = .ok (.new idx, 3)) (hk : k + 1 ≤ mc) (hn : n + N ≤ ms)
    (K : ∀ q : Nat, h q = none → gA G q → GW G E Q nL (pc + 3) L (.ref q :: st) (hup h q (ob ci fs)) (k + 1) (n + N)) : GW G E Q nL pc L st h k n := by
  intro H locs ls w b c
  obtain ⟨ws, hP, hD, hh⟩ := w
  obtain ⟨c1, c2, c3, c4⟩ := ck
  have hR := X.2.2.2.2.2.2.2.2.2
  exact va_new (C := C) (T := T) (N := N) X.1 X.2.1 (Ts := uw) X.2.2.2.2.1 c2 ty0 c3 X.2.2.2.1 (X.2.2.2.2.1 _ w1) (X.2.2.2.2.1 _ w2) (X.2.2.2.2.1 _ w3) X.2.2.2.2.2.1.2.1 hP hD b (fun q hq => Nat.le_trans X.2.2.2.2.2.1.1 hq) c1 hfs (Nat.le_trans hk hR.1) (Nat.le_trans hn hR.2) d (fun q H1 p1 p2 p3 => by
    have hs := gpush_spec p2 hh
    exact K q hs.1 (p2.2 _ _ (show (ws ++ [(q, _)])[ws.length]? = some _ by rw [List.getElem?_append_right (Nat.le_refl _), Nat.sub_self]; rfl)) H1 locs ls ⟨_, p1, p2, hs.2⟩ p3 c)
theorem g_iaload (X : Gc G E own cc nL lv mc ms) {a n' : Nat} {f : Nat → Int32} {i : Int32} (d : decode cc pc = .ok (.iaload, 1)) (ha : h a = some (aI G n' f)) (hi : vp_in i n') (K : GW G E Q nL (pc + 1) L (.int (f i.toNatClampNeg) :: st) h k n) : GW G E Q nL pc L (.int i :: .ref a :: st) h k n :=
  fun H locs ls w b c => va_iald X.1 X.2.1 X.2.2.2.2.2.1.2.1 (w.one ha) 0 0 rfl rfl hi d (K H locs ls w b c)
theorem g_baload (X : Gc G E own cc nL lv mc ms) {a n' : Nat} {f : Nat → Int32} {i : Int32} (d : decode cc pc = .ok (.baload, 1)) (ha : h a = some (aB G n' f)) (hi : vp_in i n') (K : GW G E Q nL (pc + 1) L (.int (f i.toNatClampNeg) :: st) h k n) : GW G E Q nL pc L (.int i :: .ref a :: st) h k n :=
  fun H locs ls w b c => va_bald X.1 X.2.1 X.2.2.2.2.2.1.2.1 (w.one ha) 0 1 rfl rfl hi d (K H locs ls w b c)
theorem g_laload (X : Gc G E own cc nL lv mc ms) {a n' : Nat} {f : Nat → Int64} {i : Int32} (d : decode cc pc = .ok (.laload, 1)) (ha : h a = some (aJ G n' f)) (hi : vp_in i n') (K : GW G E Q nL (pc + 1) L (.long (f i.toNatClampNeg) :: st) h k n) : GW G E Q nL pc L (.int i :: .ref a :: st) h k n :=
  fun H locs ls w b c => va_lald X.1 X.2.1 X.2.2.2.2.2.1.2.1 (w.one ha) 0 2 rfl rfl hi d (K H locs ls w b c)
theorem g_zaload (X : Gc G E own cc nL lv mc ms) {a n' : Nat} {f : Nat → Int32} {i : Int32} (d : decode cc pc = .ok (.baload, 1)) (ha : h a = some (aZ G n' f)) (hi : vp_in i n') (K : GW G E Q nL (pc + 1) L (.int (f i.toNatClampNeg) :: st) h k n) : GW G E Q nL pc L (.int i :: .ref a :: st) h k n :=
  fun H locs ls w b c => va_zald X.1 X.2.1 X.2.2.2.2.2.1.2.1 (w.one ha) 0 3 rfl rfl hi d (K H locs ls w b c)
theorem g_aaload (X : Gc G E own cc nL lv mc ms) {a n' : Nat} {f : Nat → Option Nat} {i : Int32} (d : decode cc pc = .ok (.aaload, 1)) (ha : h a = some (aO G n' f)) (hi : vp_in i n') (K : GW G E Q nL (pc + 1) L (va_rf (f i.toNatClampNeg) :: st) h k n) : GW G E Q nL pc L (.int i :: .ref a :: st) h k n :=
  fun H locs ls w b c => va_aldq X.1 X.2.1 X.2.2.2.2.2.1.2.1 (w.one ha) 0 4 rfl rfl hi d (K H locs ls w b c)
theorem g_iastore (X : Gc G E own cc nL lv mc ms) {a n' : Nat} {f : Nat → Int32} {i : Int32} {x : Int32} (d : decode cc pc = .ok (.iastore, 1)) (ha : h a = some (aI G n' f)) (hi : vp_in i n') (K : GW G E Q nL (pc + 1) L st (hup h a (aI G n' (upd f i.toNatClampNeg x))) k n) : GW G E Q nL pc L (.int x :: .int i :: .ref a :: st) h k n := by
  intro H locs ls w b c
  obtain ⟨ws, hP, hD, hh⟩ := w
  obtain ⟨j, hj⟩ := List.getElem?_of_mem ((hh a _).mp ha)
  exact va_iast X.1 X.2.1 X.2.2.2.2.2.1.2.1 hP hD b j 0 hj rfl hi d (fun H1 locs1 p1 p2 p3 => K H1 locs1 ls ⟨_, p1, p2, gset_spec hD hh hj⟩ p3 c)
theorem g_bastore (X : Gc G E own cc nL lv mc ms) {a n' : Nat} {f : Nat → Int32} {i : Int32} {x : Int32} (d : decode cc pc = .ok (.bastore, 1)) (ha : h a = some (aB G n' f)) (hi : vp_in i n') (K : GW G E Q nL (pc + 1) L st (hup h a (aB G n' (upd f i.toNatClampNeg (vp_nar .byte x)))) k n) : GW G E Q nL pc L (.int x :: .int i :: .ref a :: st) h k n := by
  intro H locs ls w b c
  obtain ⟨ws, hP, hD, hh⟩ := w
  obtain ⟨j, hj⟩ := List.getElem?_of_mem ((hh a _).mp ha)
  exact va_bast X.1 X.2.1 X.2.2.2.2.2.1.2.1 hP hD b j 1 hj rfl hi d (fun H1 locs1 p1 p2 p3 => K H1 locs1 ls ⟨_, p1, p2, gset_spec hD hh hj⟩ p3 c)
theorem g_zastore (X : Gc G E own cc nL lv mc ms) {a n' : Nat} {f : Nat → Int32} {i : Int32} {x : Int32} (d : decode cc pc = .ok (.bastore, 1)) (ha : h a = some (aZ G n' f)) (hi : vp_in i n') (K : GW G E Q nL (pc + 1) L st (hup h a (aZ G n' (upd f i.toNatClampNeg (vp_nar .boolean x)))) k n) : GW G E Q nL pc L (.int x :: .int i :: .ref a :: st) h k n := by
  intro H locs ls w b c
  obtain ⟨ws, hP, hD, hh⟩ := w
  obtain ⟨j, hj⟩ := List.getElem?_of_mem ((hh a _).mp ha)
  exact va_zast X.1 X.2.1 X.2.2.2.2.2.1.2.1 hP hD b j 3 hj rfl hi d (fun H1 locs1 p1 p2 p3 => K H1 locs1 ls ⟨_, p1, p2, gset_spec hD hh hj⟩ p3 c)
theorem g_lastore (X : Gc G E own cc nL lv mc ms) {a n' : Nat} {f : Nat → Int64} {i : Int32} {x : Int64} (d : decode cc pc = .ok (.lastore, 1)) (ha : h a = some (aJ G n' f)) (hi : vp_in i n') (K : GW G E Q nL (pc + 1) L st (hup h a (aJ G n' (vp_updL f i.toNatClampNeg x))) k n) : GW G E Q nL pc L (.long x :: .int i :: .ref a :: st) h k n := by
  intro H locs ls w b c
  obtain ⟨ws, hP, hD, hh⟩ := w
  obtain ⟨j, hj⟩ := List.getElem?_of_mem ((hh a _).mp ha)
  exact va_last X.1 X.2.1 X.2.2.2.2.2.1.2.1 hP hD b j 2 hj rfl hi d (fun H1 locs1 p1 p2 p3 => K H1 locs1 ls ⟨_, p1, p2, gset_spec hD hh hj⟩ p3 c)
theorem g_alen (X : Gc G E own cc nL lv mc ms) {a : Nat} {t : Nat} {ty : FieldType} {cA : ClassId} {x : vp_A} (d : decode cc pc = .ok (.arraylength, 1)) (ht : (gTys G)[t]? = some (cA, ty)) (ha : h a = some (.inl (cA, x))) (v : Int32) (hv : Int32.ofNat x.1 = v) (K : GW G E Q nL (pc + 1) L (.int v :: st) h k n) : GW G E Q nL pc L (.ref a :: st) h k n :=
  fun H locs ls w b c => va_alen X.1 X.2.1 X.2.2.2.2.2.1.2.1 (w.one ha) 0 t rfl ht hv d (K H locs ls w b c)
theorem g_newarr (X : Gc G E own cc nL lv mc ms) {atype : ArrayType} {ty : FieldType} (hty : newarray.typeOf atype = ty) (hw : Cond.arrayClass (newarray.typeOf atype) ∈ uw) {t : Nat} {cA : ClassId} (ht : (gTys G)[t]? = some (cA, ty)) (hp : ∀ C, ty ≠ .object C) {z : Int32} {N : Nat} (a0 : vp_A) (ha : ∀ cA : ClassId, vp_cell cA a0 = arrV cA N (fun _ => defaultValue ty)) (hz : ¬ z < 0) (hN : z.toNatClampNeg = N) (hbytes : N * componentBytes ty ≤ 536870912) (hk : k + 1 ≤ mc) (hn : n + N ≤ ms) (d : decode cc pc = .ok (.newarray atype, 2))
    (K : ∀ q : Nat, h q = none → gA G q → GW G E Q nL (pc + 2) L (.ref q :: st) (hup h q (.inl (cA, a0))) (k + 1) (n + N)) : GW G E Q nL pc L (.int z :: st) h k n := by
  intro H locs ls w b c
  obtain ⟨ws, hP, hD, hh⟩ := w
  have hR := X.2.2.2.2.2.2.2.2.2
  have hK0 := X.2.2.2.2.2.1.2.1
  refine va_newa X.1 X.2.1 (X.2.2.2.2.1 _ hw) hty hK0 hP hD b (fun q hq => Nat.le_trans X.2.2.2.2.2.1.1 hq) ha hz hN hbytes (Nat.le_trans hk hR.1) (Nat.le_trans hn hR.2) d (fun q cB H1 p0 p1 p2 p3 => ?_)
  have e : cB = cA := by
    have q1 := (hK0.2 t _ ht).2
    have q2 := (p0.2 (gTys G).length (cB, ty) (by rw [List.getElem?_append_right (Nat.le_refl _), Nat.sub_self]; rfl)).2
    unfold va_RA at q1 q2
    cases ty with
    | object C => exact absurd rfl (hp C)
    | _ => exact Option.some.inj (q2.symm.trans q1)
  subst e
  have hs := gpush_spec p2 hh
  exact K q hs.1 (p2.2 _ _ (show (ws ++ [(q, _)])[ws.length]? = some _ by rw [List.getElem?_append_right (Nat.le_refl _), Nat.sub_self]; rfl)) H1 locs ls ⟨_, p1, p2, hs.2⟩ p3 c
/-- what a method owes that returns -/
def gQ (G : gG) (post : Option Value → hW → Prop) : Array Value → State → Outcome → State → Prop := fun _ st oc t => (∃ (v : Option Value) (h' : hW), oc = .returned v ∧ post v h' ∧ gWo G h' t.heap) ∧ va_F (gA G) st t
abbrev gMQ (G : gG) (E : gE) (mc ms : Nat) (post : Option Value → hW → Prop) : State → Prop := MQ E.below (gQ G post) E.args E.s mc ms (gA G)
/-- a method: its name, its code, its locals, its answer's type -/
abbrev gM : Type := MethodName × ByteArray × Nat × Option FieldType
abbrev gRm (lv mc ms : Nat) : Room := { frames := lv, cells := mc, slots := ms, locals := 100 * lv }
/-- a method's contract, over the abstract heap -/
def Ct (G : gG) (l : Launch) (lv mc ms : Nat) (M : gM) (av : List Value) (h : hW) (post : Option Value → hW → Prop) : Prop :=
  Met l M.1 (.code M.1 M.2.1 M.2.2.1 M.2.2.2 :: uw) (gRm lv mc ms) (va_Pc av (fun U => gWo G h U.heap ∧ gOld G U U.heap)) (gQ G post) mc ms (gA G)
theorem Ct.mono {G : gG} {l : Launch} {lv mc ms : Nat} {M : gM} {av : List Value} {h : hW} {post post' : Option Value → hW → Prop} (hp : ∀ v h', post v h' → post' v h') (K : Ct G l lv mc ms M av h post) : Ct G l lv mc ms M av h post' := by
  intro p e ha hc hk s m args below hf happ hP hx
  obtain ⟨t, o, b0, b1, b2, ⟨⟨v, h', e1, e2, e3⟩, e4⟩, e5⟩ := K p e ha hc hk s m args below hf happ hP hx
  exact ⟨t, o, b0, b1, b2, ⟨⟨v, h', e1, hp v h' e2, e3⟩, e4⟩, e5⟩
/-- facts of the method itself -/
def gF (E : gE) (M : gM) : Prop := E.meth.sig.returnType = M.2.2.2 ∧ E.meth.name = M.1.name ∧ ∀ x ∈ E.c.exceptionTable.toList, False
theorem Ct.of {l : Launch} {M : gM} {av : List Value} {post : Option Value → hW → Prop} (hy : plainName M.1.cls = true) (hlen : (lg_sl av).length ≤ M.2.2.1)
    (body : ∀ E : gE, E.l = l → Gc G E M.1.cls M.2.1 M.2.2.1 lv mc ms → gF E M → GW G E (gMQ G E mc ms post) M.2.2.1 0 (lv_args 0 av) [] h 0 0) : Ct G l lv mc ms M av h post := by
  refine Met.ofW (cc := M.2.1) (maxL := M.2.2.1) (ret := M.2.2.2) hy rfl ?_
  intro p e s m args below meth c s₁ B hml hv
  obtain ⟨rfl, hw, ho⟩ := hv
  have hts := atoms_spec (ws := .code M.1 M.2.1 M.2.2.1 M.2.2.2 :: uw) B.pre
  have ht : ∀ x ∈ c.exceptionTable.toList, False := by
    obtain ⟨meth9, c9, h1, h2, -, -, -, -, h7, -⟩ := Cond.code_spec B.named (hts _ List.mem_cons_self)
    cases Option.some.inj (h1.symm.trans B.method)
    cases Option.some.inj (h2.symm.trans (Stand.of_body B).code)
    intro x hx
    rw [Array.isEmpty_iff.mp h7] at hx
    cases hx
  have hown : s.vm.findClass M.1.cls = some m.cls := findClass_of_methodNamed B.named
  have K := body (p, l, e, (headSpec (.code M.1 M.2.1 M.2.2.1 M.2.2.2 :: uw) (gRm lv mc ms)).room, s, m, av.toArray, below, meth, c) rfl
    ⟨B.exec, B.bytes, hml, hown, fun w hw => hts w (List.mem_cons_of_mem _ hw), ho, B.notSynchronized, Nat.le_refl _, Nat.le_refl _, Nat.le_refl _, Nat.le_refl _⟩
    ⟨B.returns, (name_of_methodNamed B.named B.method).1, ht⟩
  have hl := lv_entry av hlen
  rw [lg_entry_eq]
  exact K s.heap [] _ hw va_S.rf hl
theorem g_ret0 (X : Gc G E own cc nL lv mc ms) {mc' ms' : Nat} {M : gM} (F : gF E M) (hM : M.2.2.2 = none) {post : Option Value → hW → Prop} (d : decode cc pc = .ok (.return_, 1)) (hk : k ≤ mc') (hn : n ≤ ms') (hq : post none h) : GW G E (gMQ G E mc' ms' post) nL pc L [] h k n := by
  intro H locs ls w b c
  refine W.widen hk hn (W.vret X.1 X.2.1 (F.1.trans hM) (fun t ht hW => ⟨⟨none, h, rfl, hq, by rw [ht]; exact w⟩, b.F ht⟩) b.2.2 d (hlocks := X.2.2.2.2.2.2.1))
theorem g_iret (X : Gc G E own cc nL lv mc ms) {mc' ms' : Nat} {M : gM} (F : gF E M) {ty : FieldType} (hM : M.2.2.2 = some ty) {x : Int32} (hx : narrow ty (.int x) = .int x) {post : Option Value → hW → Prop} (d : decode cc pc = .ok (.ireturn, 1)) (hk : k ≤ mc') (hn : n ≤ ms') (hq : post (some (.int x)) h) : GW G E (gMQ G E mc' ms' post) nL pc L [.int x] h k n := by
  intro H locs ls w b c
  refine W.widen hk hn (W.zret X.1 X.2.1 (F.1.trans hM) hx (fun t ht hW => ⟨⟨some (.int x), h, rfl, hq, by rw [ht]; exact w⟩, b.F ht⟩) b.2.2 d (hlocks := X.2.2.2.2.2.2.1))
theorem g_lret (X : Gc G E own cc nL lv mc ms) {mc' ms' : Nat} {M : gM} (F : gF E M) (hM : M.2.2.2 = some .long) {x : Int64} {post : Option Value → hW → Prop} (d : decode cc pc = .ok (.lreturn, 1)) (hk : k ≤ mc') (hn : n ≤ ms') (hq : post (some (.long x)) h) : GW G E (gMQ G E mc' ms' post) nL pc L [.long x] h k n := by
  intro H locs ls w b c
  refine W.widen hk hn (W.lret X.1 X.2.1 (F.1.trans hM) (fun t ht hW => ⟨⟨some (.long x), h, rfl, hq, by rw [ht]; exact w⟩, b.F ht⟩) b.2.2 d (hlocks := X.2.2.2.2.2.2.1))
theorem g_aret (X : Gc G E own cc nL lv mc ms) {mc' ms' : Nat} {M : gM} (F : gF E M) {rt : FieldType} (hM : M.2.2.2 = some rt) (hrt : (∃ n, rt = .object n) ∨ ∃ t, rt = .array t) {v : Value} (hv : v = .null ∨ ∃ a, v = .ref a) {post : Option Value → hW → Prop} (d : decode cc pc = .ok (.areturn, 1)) (hk : k ≤ mc') (hn : n ≤ ms') (hq : post (some v) h) : GW G E (gMQ G E mc' ms' post) nL pc L [v] h k n := by
  intro H locs ls w b c
  refine W.widen hk hn (W.aret X.1 X.2.1 (F.1.trans hM) hrt hv (fun t ht hW => ⟨⟨some v, h, rfl, hq, by rw [ht]; exact w⟩, b.F ht⟩) b.2.2 d (hlocks := X.2.2.2.2.2.2.1))
/-- a link to a method -/
def MLb (own : String) (idx : Nat) (M : gM) (nA : Nat) : Prop := Cond.methodLink own idx M.1 ∈ uw ∧ Cond.code M.1 M.2.1 M.2.2.1 M.2.2.2 ∈ uw ∧ Cond.initialized M.1.cls ∈ uw ∧ (M.1.cls ≠ "java/lang/invoke/MethodHandle" ∧ M.1.cls ≠ "java/lang/invoke/VarHandle") ∧ (parseMethodDescriptor M.1.desc).map (fun d => d.parameters.length) = some nA ∧ M.2.2.1 ≤ 60
def MLv (own : String) (idx : Nat) (M : gM) (nA : Nat) : Prop := MLb own idx M nA ∧ Cond.instanceMethod M.1 ∈ uw ∧ Cond.selects M.1.cls M.1 M.1 ∈ uw
def MLs (own : String) (idx : Nat) (M : gM) (nA : Nat) : Prop := MLb own idx M nA ∧ Cond.static M.1 ∈ uw
def MLi (own : String) (idx : Nat) (M : gM) (nA : Nat) : Prop := MLb own idx M nA ∧ Cond.instanceMethod M.1 ∈ uw ∧ M.1.name = "<init>"
theorem g_callB (X : Gc G E own cc nL lv mc ms) {idx nA lvc mcc msc : Nat} {M : gM} (ml : MLb own idx M nA) (hlv : lvc + 1 ≤ lv) : CallB E.R E.s E.args own idx M.1 M.2.1 M.2.2.1 M.2.2.2 (.code M.1 M.2.1 M.2.2.1 M.2.2.2 :: uw) (gRm lvc mcc msc) mcc msc nA := by
  obtain ⟨m1, m2, m3, m4, m5, m6⟩ := ml
  obtain ⟨-, -, -, -, hts, -, -, r1, r2, r3, r4⟩ := X
  refine ⟨rfl, rfl, Nat.le_trans hlv r1, ?_, fun w hw a' U hW => ?_, List.mem_cons_self, hts _ m2, hts _ m3, m4, fun sig hs => ?_, hts _ m1⟩
  · show 8 + (M.2.2.1 + 11) + 100 * lvc ≤ E.R.locals
    omega
  · rcases List.mem_cons.mp hw with rfl | hw
    · exact word_at hW (uw_good m2) (hts _ m2)
    · exact word_at hW (uw_good hw) (hts _ hw)
  · rw [hs] at m5
    exact (Option.some.inj m5).symm
theorem g_blind {av : List Value} : FrameBlind (va_Pc av (fun U => gWo G h U.heap ∧ gOld G U U.heap)) := fun a U g mk q => ⟨q.1, q.2.1, q.2.2.same (U := U.calling g mk a) rfl⟩
theorem g_pre (X : Gc G E own cc nL lv mc ms) {H : Heap} {locs : List Loc} (w : gWo G h H) (b : va_S (gA G) E.s.heap H locs) (av : List Value) : ∀ U : State, U.heap = H → E.s.WarmedH U.vm → va_Pc av (fun U => gWo G h U.heap ∧ gOld G U U.heap) av.toArray U :=
  fun U hU hW => ⟨rfl, by rw [hU]; exact w, by rw [hU]; exact X.2.2.2.2.2.1.move hW b.1 b.2.1⟩
theorem g_behind {lvc mcc msc : Nat} {post : Option Value → hW → Prop} {rest : List Value} {a : Array Value} {st0 : List Value} {H : Heap} {locs : List Loc} {ls : Array Slot} (hr : va_Run E.p E.l E.e E.R E.s E.m E.args E.below E.meth E.c H locs k n mcc msc (F0 E.m pc ls st0) rest (gQ G post a) (gA G)) (b : va_S (gA G) E.s.heap H locs) (c : lv_has ls nL L)
    (K : ∀ v h', post v h' → GW G E Q nL (pc + 3) L (v.toList ++ rest) h' (k + mcc) (n + msc)) : W E.p E.l E.e E.R E.s E.m E.args E.below E.meth E.c H locs k n Q (F0 E.m pc ls st0) := by
  intro T hT XT
  obtain ⟨v, st₀, t, T', Ls, h0, X', hL, e1, e2, ⟨⟨v', h', hv, hp, hw⟩, hz, hk⟩, st⟩ := hr T hT XT
  cases hv
  rw [h0] at hz hk
  obtain ⟨t2, a1, b1⟩ := K v h' hp T'.heap (locs ++ Ls) ls (by rw [e1]; exact hw) ⟨Nat.le_trans b.1 (by rw [e1]; exact hz), fun q h1 h2 => by rw [e1, hk q (Nat.lt_of_lt_of_le h1 b.1) h2]; exact b.2.1 q h1 h2, fun q hq => by
      rcases List.mem_append.mp hq with h | h
      · exact b.2.2 q h
      · exact hL q h⟩ c T' rfl X'
  exact ⟨t2, st t2 a1, b1⟩
theorem g_callV (X : Gc G E own cc nL lv mc ms) {idx nA lvc mcc msc : Nat} {M : gM} (ml : MLv own idx M nA) {b : Nat} {As rest : List Value} {post : Option Value → hW → Prop} (hM : Ct G E.l lvc mcc msc M (.ref b :: As) h post) (hb : ∃ ci fs, h b = some (ob ci fs) ∧ (vwCl[ci]?).map (·.1) = some M.1.cls) (hlv : lvc + 1 ≤ lv) (hA : As.length = nA) (hst : st = As.reverse ++ .ref b :: rest) (hW : (rest.map fun v => v.category).sum ≤ 8) (hk : k + mcc ≤ mc) (hn : n + msc ≤ ms) (d : decode cc pc = .ok (.invokevirtual idx, 3))
    (K : ∀ v h', post v h' → GW G E Q nL (pc + 3) L (v.toList ++ rest) h' (k + mcc) (n + msc)) : GW G E Q nL pc L st h k n := by
  intro H locs ls w bb c
  obtain ⟨ci, fs, hb1, hb2⟩ := hb
  have r := X.2.2.2.2.2.2.2.2.2
  have hc : ∃ q : vw_C, vwCl[ci]? = some q ∧ q.1 = M.1.cls := by
    cases hq : vwCl[ci]? with
    | none => rw [hq] at hb2; cases hb2
    | some q => rw [hq] at hb2; exact ⟨q, rfl, Option.some.inj hb2⟩
  obtain ⟨q, hq1, hq2⟩ := hc
  have hrec := va_recv X.2.2.2.2.2.1.2.1 (w.one hb1) hq1 (q0 := 0) rfl
  rw [hq2] at hrec
  exact g_behind (lvc := lvc) (va_runV (As := As) (rest := rest) ⟨X.1, X.2.1, X.2.2.1, X.2.2.2.1, X.2.2.2.2.1⟩ hM ⟨g_callB X ml.1 hlv, X.2.2.2.2.1 _ ml.2.1, X.2.2.2.2.1 _ ml.2.2⟩ ⟨g_blind, hrec, g_pre X w bb _⟩ rfl hA c.1 hst (lv_room hW) d ⟨Nat.le_trans hk r.1, Nat.le_trans hn r.2⟩) bb c K
theorem g_callI (X : Gc G E own cc nL lv mc ms) {idx nA lvc mcc msc : Nat} {M : gM} (ml : MLi own idx M nA) (hret : M.2.2.2 = none) {b : Nat} {As rest : List Value} {post : Option Value → hW → Prop} (hM : Ct G E.l lvc mcc msc M (.ref b :: As) h post) (hlv : lvc + 1 ≤ lv) (hA : As.length = nA) (hst : st = As.reverse ++ .ref b :: rest) (hW : (rest.map fun v => v.category).sum ≤ 8) (hk : k + mcc ≤ mc) (hn : n + msc ≤ ms) (d : decode cc pc = .ok (.invokespecial idx, 3))
    (K : ∀ v h', post v h' → GW G E Q nL (pc + 3) L (v.toList ++ rest) h' (k + mcc) (n + msc)) : GW G E Q nL pc L st h k n := by
  intro H locs ls w bb c
  have r := X.2.2.2.2.2.2.2.2.2
  obtain ⟨y, by9, ml9, rt⟩ := M
  dsimp only at hret
  subst hret
  exact g_behind (lvc := lvc) (va_runI (As := As) (rest := rest) ⟨X.1, X.2.1, X.2.2.1, X.2.2.2.1, X.2.2.2.2.1⟩ hM ⟨g_callB X ml.1 hlv, ml.2.2, X.2.2.2.2.1 _ ml.2.1⟩ ⟨g_blind, g_pre X w bb _⟩ rfl hA c.1 hst (lv_room hW) d ⟨Nat.le_trans hk r.1, Nat.le_trans hn r.2⟩) bb c K
theorem g_callS (X : Gc G E own cc nL lv mc ms) {idx nA lvc mcc msc : Nat} {M : gM} (ml : MLs own idx M nA) {As rest : List Value} {post : Option Value → hW → Prop} (hM : Ct G E.l lvc mcc msc M As h post) (hlv : lvc + 1 ≤ lv) (hA : As.length = nA) (hst : st = As.reverse ++ rest) (hW : (rest.map fun v => v.category).sum ≤ 8) (hk : k + mcc ≤ mc) (hn : n + msc ≤ ms) (d : decode cc pc = .ok (.invokestatic idx, 3))
    (K : ∀ v h', post v h' → GW G E Q nL (pc + 3) L (v.toList ++ rest) h' (k + mcc) (n + msc)) : GW G E Q nL pc L st h k n := by
  intro H locs ls w bb c
  have r := X.2.2.2.2.2.2.2.2.2
  exact g_behind (lvc := lvc) (va_runS (As := As) (rest := rest) ⟨X.1, X.2.1, X.2.2.1, X.2.2.2.1, X.2.2.2.2.1⟩ hM ⟨g_callB X ml.1 hlv, X.2.2.2.2.1 _ ml.2⟩ ⟨g_blind, g_pre X w bb _⟩ rfl hA c.1 hst (lv_room hW) d ⟨Nat.le_trans hk r.1, Nat.le_trans hn r.2⟩) bb c K
end GR
end
section
theorem ck_ws {C : String} {T : u_T} {N : Nat} (ps : List Nat) (h : (List.range N).all (fun k => decide (lw_tbl[ps.getD k 0]? = some (u_lay C T k)) && goodWord (u_lay C T k)) = true) : ∀ w ∈ u_ws C T N, w ∈ uw := by
  intro w hw
  obtain ⟨k, hk, rfl⟩ := List.mem_map.mp hw
  have h1 := List.all_eq_true.mp h k hk
  simp only [Bool.and_eq_true, decide_eq_true_eq] at h1
  exact uw_at _ h1.1 h1.2
theorem ck0 : CK 0 RX0 TX0 6 tyX0 := ⟨rfl, ck_ws [506, 508, 510, 512, 514, 516] (by decide +kernel), tyX0_ok, nmX0⟩
theorem ck1 : CK 1 RX1 TX1 3 tyX1 := ⟨rfl, ck_ws [638, 640, 642] (by decide +kernel), tyX1_ok, nmX1⟩
theorem ck2 : CK 2 RX2 TX2 3 tyX2 := ⟨rfl, ck_ws [465, 467, 469] (by decide +kernel), tyX2_ok, nmX2⟩
theorem ck3 : CK 3 RX3 TX3 4 tyX3 := ⟨rfl, ck_ws [891, 893, 895, 897] (by decide +kernel), tyX3_ok, nmX3⟩
theorem ck4 : CK 4 RX4 TX4 5 tyX4 := ⟨rfl, ck_ws [105, 107, 109, 111, 113] (by decide +kernel), tyX4_ok, nmX4⟩
theorem ck5 : CK 5 RX5 TX5 5 tyX5 := ⟨rfl, ck_ws [135, 137, 139, 141, 143] (by decide +kernel), tyX5_ok, nmX5⟩
theorem ck6 : CK 6 RX6 TX6 11 tyX6 := ⟨rfl, ck_ws [185, 187, 189, 191, 193, 195, 197, 199, 201, 203, 205] (by decide +kernel), tyX6_ok, nmX6⟩
theorem ck7 : CK 7 RX7 TX7 35 tyX7 := ⟨rfl, ck_ws [1109, 1111, 1113, 1115, 1117, 1119, 1121, 1123, 1125, 1127, 1129, 1131, 1133, 1135, 1137, 1139, 1141, 1143, 1145, 1147, 1149, 1151, 1153, 1155, 1157, 1159, 1161, 1163, 1165, 1167, 1169, 1171, 1173, 1175, 1177] (by decide +kernel), tyX7_ok, nmX7⟩
theorem ck8 : CK 8 RJx4a65c TJx4a65c 3 tyJx4a65c := ⟨rfl, ck_ws [171, 167, 169] (by decide +kernel), tyJx4a65c_ok, nmJx4a65c⟩
theorem fp_X6_10 : FL "ComplaintDesk" 10 6 0 (.object "ComplaintDesk$Tape") true := ⟨RX6, TX6, 11, tyX6, ck6, by decide, uw_at 174 (by decide +kernel) rfl, rfl, by decide +kernel, fun _ => rfl⟩
theorem fl_X6_10 : FR "ComplaintDesk" 10 6 0 := fp_X6_10.r
theorem fp_X6_19 : FL "ComplaintDesk" 19 6 1 (.object "ComplaintDesk$Words") true := ⟨RX6, TX6, 11, tyX6, ck6, by decide, uw_at 175 (by decide +kernel) rfl, rfl, by decide +kernel, fun _ => rfl⟩
theorem fl_X6_19 : FR "ComplaintDesk" 19 6 1 := fp_X6_19.r
theorem fp_X6_23 : FL "ComplaintDesk" 23 6 2 .int false := ⟨RX6, TX6, 11, tyX6, ck6, by decide, uw_at 176 (by decide +kernel) rfl, rfl, by decide +kernel, fun h => by cases h⟩
theorem fl_X6_23 : FR "ComplaintDesk" 23 6 2 := fp_X6_23.r
theorem fp_X6_27 : FL "ComplaintDesk" 27 6 3 .int false := ⟨RX6, TX6, 11, tyX6, ck6, by decide, uw_at 177 (by decide +kernel) rfl, rfl, by decide +kernel, fun h => by cases h⟩
theorem fl_X6_27 : FR "ComplaintDesk" 27 6 3 := fp_X6_27.r
theorem fp_X6_33 : FL "ComplaintDesk" 33 6 4 (.object "java/util/ArrayList") true := ⟨RX6, TX6, 11, tyX6, ck6, by decide, uw_at 178 (by decide +kernel) rfl, rfl, by decide +kernel, fun _ => rfl⟩
theorem fl_X6_33 : FR "ComplaintDesk" 33 6 4 := fp_X6_33.r
theorem fp_X6_37 : FL "ComplaintDesk" 37 6 5 (.object "java/util/ArrayList") true := ⟨RX6, TX6, 11, tyX6, ck6, by decide, uw_at 179 (by decide +kernel) rfl, rfl, by decide +kernel, fun _ => rfl⟩
theorem fl_X6_37 : FR "ComplaintDesk" 37 6 5 := fp_X6_37.r
theorem fp_X6_40 : FL "ComplaintDesk" 40 6 6 (.array .int) true := ⟨RX6, TX6, 11, tyX6, ck6, by decide, uw_at 180 (by decide +kernel) rfl, rfl, by decide +kernel, fun _ => rfl⟩
theorem fl_X6_40 : FR "ComplaintDesk" 40 6 6 := fp_X6_40.r
theorem fp_X6_44 : FL "ComplaintDesk" 44 6 7 (.array .int) true := ⟨RX6, TX6, 11, tyX6, ck6, by decide, uw_at 181 (by decide +kernel) rfl, rfl, by decide +kernel, fun _ => rfl⟩
theorem fl_X6_44 : FR "ComplaintDesk" 44 6 7 := fp_X6_44.r
theorem fp_X6_47 : FL "ComplaintDesk" 47 6 8 .int false := ⟨RX6, TX6, 11, tyX6, ck6, by decide, uw_at 182 (by decide +kernel) rfl, rfl, by decide +kernel, fun h => by cases h⟩
theorem fl_X6_47 : FR "ComplaintDesk" 47 6 8 := fp_X6_47.r
theorem fp_X6_50 : FL "ComplaintDesk" 50 6 9 (.array .int) true := ⟨RX6, TX6, 11, tyX6, ck6, by decide, uw_at 183 (by decide +kernel) rfl, rfl, by decide +kernel, fun _ => rfl⟩
theorem fl_X6_50 : FR "ComplaintDesk" 50 6 9 := fp_X6_50.r
theorem fp_X6_53 : FL "ComplaintDesk" 53 6 10 (.array .int) true := ⟨RX6, TX6, 11, tyX6, ck6, by decide, uw_at 184 (by decide +kernel) rfl, rfl, by decide +kernel, fun _ => rfl⟩
theorem fl_X6_53 : FR "ComplaintDesk" 53 6 10 := fp_X6_53.r
theorem fp_X6_64 : FL "ComplaintDesk" 64 4 1 .int false := ⟨RX4, TX4, 5, tyX4, ck4, by decide, uw_at 97 (by decide +kernel) rfl, rfl, by decide +kernel, fun h => by cases h⟩
theorem fl_X6_64 : FR "ComplaintDesk" 64 4 1 := fp_X6_64.r
theorem fp_X6_110 : FL "ComplaintDesk" 110 0 5 (.object "ComplaintDesk$Pattern") false := ⟨RX0, TX0, 6, tyX0, ck0, by decide, uw_at 505 (by decide +kernel) rfl, rfl, by decide +kernel, fun h => by cases h⟩
theorem fl_X6_110 : FR "ComplaintDesk" 110 0 5 := fp_X6_110.r
theorem fp_X6_132 : FL "ComplaintDesk" 132 5 3 .int false := ⟨RX5, TX5, 5, tyX5, ck5, by decide, uw_at 132 (by decide +kernel) rfl, rfl, by decide +kernel, fun h => by cases h⟩
theorem fl_X6_132 : FR "ComplaintDesk" 132 5 3 := fp_X6_132.r
theorem fl_X6_148 : FR "ComplaintDesk" 148 1 1 := ⟨RX1, TX1, 3, tyX1, ck1, by decide, uw_at 635 (by decide +kernel) rfl⟩
theorem fl_X6_155 : FR "ComplaintDesk" 155 1 2 := ⟨RX1, TX1, 3, tyX1, ck1, by decide, uw_at 637 (by decide +kernel) rfl⟩
theorem fp_X6_174 : FL "ComplaintDesk" 174 3 3 .int false := ⟨RX3, TX3, 4, tyX3, ck3, by decide, uw_at 890 (by decide +kernel) rfl, rfl, by decide +kernel, fun h => by cases h⟩
theorem fl_X6_174 : FR "ComplaintDesk" 174 3 3 := fp_X6_174.r
theorem fp_X6_177 : FL "ComplaintDesk" 177 3 1 (.object "ComplaintDesk$Cause") false := ⟨RX3, TX3, 4, tyX3, ck3, by decide, uw_at 886 (by decide +kernel) rfl, rfl, by decide +kernel, fun h => by cases h⟩
theorem fl_X6_177 : FR "ComplaintDesk" 177 3 1 := fp_X6_177.r
theorem fl_X6_181 : FR "ComplaintDesk" 181 0 0 := ⟨RX0, TX0, 6, tyX0, ck0, by decide, uw_at 495 (by decide +kernel) rfl⟩
theorem fp_X6_184 : FL "ComplaintDesk" 184 3 2 .int false := ⟨RX3, TX3, 4, tyX3, ck3, by decide, uw_at 888 (by decide +kernel) rfl, rfl, by decide +kernel, fun h => by cases h⟩
theorem fl_X6_184 : FR "ComplaintDesk" 184 3 2 := fp_X6_184.r
theorem fl_X6_187 : FR "ComplaintDesk" 187 1 0 := ⟨RX1, TX1, 3, tyX1, ck1, by decide, uw_at 633 (by decide +kernel) rfl⟩
theorem fl_X6_194 : FR "ComplaintDesk" 194 3 0 := ⟨RX3, TX3, 4, tyX3, ck3, by decide, uw_at 883 (by decide +kernel) rfl⟩
theorem fl_X6_261 : FR "ComplaintDesk" 261 0 1 := ⟨RX0, TX0, 6, tyX0, ck0, by decide, uw_at 497 (by decide +kernel) rfl⟩
theorem fp_X0_7 : FL "ComplaintDesk$Cause" 7 0 0 .int true := ⟨RX0, TX0, 6, tyX0, ck0, by decide, uw_at 493 (by decide +kernel) rfl, rfl, by decide +kernel, fun _ => rfl⟩
theorem fl_X0_7 : FR "ComplaintDesk$Cause" 7 0 0 := fp_X0_7.r
theorem fp_X0_13 : FL "ComplaintDesk$Cause" 13 0 1 (.object "ComplaintDesk$Cause") true := ⟨RX0, TX0, 6, tyX0, ck0, by decide, uw_at 496 (by decide +kernel) rfl, rfl, by decide +kernel, fun _ => rfl⟩
theorem fl_X0_13 : FR "ComplaintDesk$Cause" 13 0 1 := fp_X0_13.r
theorem fp_X0_17 : FL "ComplaintDesk$Cause" 17 0 2 .int true := ⟨RX0, TX0, 6, tyX0, ck0, by decide, uw_at 498 (by decide +kernel) rfl, rfl, by decide +kernel, fun _ => rfl⟩
theorem fl_X0_17 : FR "ComplaintDesk$Cause" 17 0 2 := fp_X0_17.r
theorem fp_X0_20 : FL "ComplaintDesk$Cause" 20 0 3 .int true := ⟨RX0, TX0, 6, tyX0, ck0, by decide, uw_at 500 (by decide +kernel) rfl, rfl, by decide +kernel, fun _ => rfl⟩
theorem fl_X0_20 : FR "ComplaintDesk$Cause" 20 0 3 := fp_X0_20.r
theorem fp_X0_23 : FL "ComplaintDesk$Cause" 23 0 4 .boolean true := ⟨RX0, TX0, 6, tyX0, ck0, by decide, uw_at 502 (by decide +kernel) rfl, rfl, by decide +kernel, fun _ => rfl⟩
theorem fl_X0_23 : FR "ComplaintDesk$Cause" 23 0 4 := fp_X0_23.r
theorem fp_X0_27 : FL "ComplaintDesk$Cause" 27 0 5 (.object "ComplaintDesk$Pattern") false := ⟨RX0, TX0, 6, tyX0, ck0, by decide, uw_at 504 (by decide +kernel) rfl, rfl, by decide +kernel, fun h => by cases h⟩
theorem fl_X0_27 : FR "ComplaintDesk$Cause" 27 0 5 := fp_X0_27.r
theorem fp_X1_12 : FL "ComplaintDesk$Letter" 12 1 2 (.object "java/util/ArrayList") true := ⟨RX1, TX1, 3, tyX1, ck1, by decide, uw_at 636 (by decide +kernel) rfl, rfl, by decide +kernel, fun _ => rfl⟩
theorem fl_X1_12 : FR "ComplaintDesk$Letter" 12 1 2 := fp_X1_12.r
theorem fp_X1_18 : FL "ComplaintDesk$Letter" 18 1 0 .int true := ⟨RX1, TX1, 3, tyX1, ck1, by decide, uw_at 632 (by decide +kernel) rfl, rfl, by decide +kernel, fun _ => rfl⟩
theorem fl_X1_18 : FR "ComplaintDesk$Letter" 18 1 0 := fp_X1_18.r
theorem fp_X1_22 : FL "ComplaintDesk$Letter" 22 1 1 .int true := ⟨RX1, TX1, 3, tyX1, ck1, by decide, uw_at 634 (by decide +kernel) rfl, rfl, by decide +kernel, fun _ => rfl⟩
theorem fl_X1_22 : FR "ComplaintDesk$Letter" 22 1 1 := fp_X1_22.r
theorem fp_X1_39 : FL "ComplaintDesk$Letter" 39 5 3 .int false := ⟨RX5, TX5, 5, tyX5, ck5, by decide, uw_at 131 (by decide +kernel) rfl, rfl, by decide +kernel, fun h => by cases h⟩
theorem fl_X1_39 : FR "ComplaintDesk$Letter" 39 5 3 := fp_X1_39.r
theorem fp_X1_42 : FL "ComplaintDesk$Letter" 42 4 3 .int false := ⟨RX4, TX4, 5, tyX4, ck4, by decide, uw_at 102 (by decide +kernel) rfl, rfl, by decide +kernel, fun h => by cases h⟩
theorem fl_X1_42 : FR "ComplaintDesk$Letter" 42 4 3 := fp_X1_42.r
theorem fp_X1_48 : FL "ComplaintDesk$Letter" 48 5 2 .int false := ⟨RX5, TX5, 5, tyX5, ck5, by decide, uw_at 129 (by decide +kernel) rfl, rfl, by decide +kernel, fun h => by cases h⟩
theorem fl_X1_48 : FR "ComplaintDesk$Letter" 48 5 2 := fp_X1_48.r
theorem fp_X1_62 : FL "ComplaintDesk$Letter" 62 4 2 .int false := ⟨RX4, TX4, 5, tyX4, ck4, by decide, uw_at 99 (by decide +kernel) rfl, rfl, by decide +kernel, fun h => by cases h⟩
theorem fl_X1_62 : FR "ComplaintDesk$Letter" 62 4 2 := fp_X1_62.r
theorem fp_X1_84 : FL "ComplaintDesk$Letter" 84 3 1 (.object "ComplaintDesk$Cause") false := ⟨RX3, TX3, 4, tyX3, ck3, by decide, uw_at 885 (by decide +kernel) rfl, rfl, by decide +kernel, fun h => by cases h⟩
theorem fl_X1_84 : FR "ComplaintDesk$Letter" 84 3 1 := fp_X1_84.r
theorem fl_X1_88 : FR "ComplaintDesk$Letter" 88 0 0 := ⟨RX0, TX0, 6, tyX0, ck0, by decide, uw_at 494 (by decide +kernel) rfl⟩
theorem fl_X2_9 : FR "ComplaintDesk$Pattern" 9 5 0 := ⟨RX5, TX5, 5, tyX5, ck5, by decide, uw_at 123 (by decide +kernel) rfl⟩
theorem fp_X2_15 : FL "ComplaintDesk$Pattern" 15 5 2 .int false := ⟨RX5, TX5, 5, tyX5, ck5, by decide, uw_at 127 (by decide +kernel) rfl, rfl, by decide +kernel, fun h => by cases h⟩
theorem fl_X2_15 : FR "ComplaintDesk$Pattern" 15 5 2 := fp_X2_15.r
theorem fp_X2_25 : FL "ComplaintDesk$Pattern" 25 2 0 (.array .long) true := ⟨RX2, TX2, 3, tyX2, ck2, by decide, uw_at 462 (by decide +kernel) rfl, rfl, by decide +kernel, fun _ => rfl⟩
theorem fl_X2_25 : FR "ComplaintDesk$Pattern" 25 2 0 := fp_X2_25.r
theorem fl_X2_28 : FR "ComplaintDesk$Pattern" 28 5 1 := ⟨RX5, TX5, 5, tyX5, ck5, by decide, uw_at 126 (by decide +kernel) rfl⟩
theorem fp_X2_35 : FL "ComplaintDesk$Pattern" 35 2 1 (.array .int) true := ⟨RX2, TX2, 3, tyX2, ck2, by decide, uw_at 463 (by decide +kernel) rfl, rfl, by decide +kernel, fun _ => rfl⟩
theorem fl_X2_35 : FR "ComplaintDesk$Pattern" 35 2 1 := fp_X2_35.r
theorem fp_X2_38 : FL "ComplaintDesk$Pattern" 38 5 4 .int false := ⟨RX5, TX5, 5, tyX5, ck5, by decide, uw_at 134 (by decide +kernel) rfl, rfl, by decide +kernel, fun h => by cases h⟩
theorem fl_X2_38 : FR "ComplaintDesk$Pattern" 38 5 4 := fp_X2_38.r
theorem fp_X2_41 : FL "ComplaintDesk$Pattern" 41 2 2 .int true := ⟨RX2, TX2, 3, tyX2, ck2, by decide, uw_at 464 (by decide +kernel) rfl, rfl, by decide +kernel, fun _ => rfl⟩
theorem fl_X2_41 : FR "ComplaintDesk$Pattern" 41 2 2 := fp_X2_41.r
theorem fp_X2_62 : FL "ComplaintDesk$Pattern" 62 4 3 .int false := ⟨RX4, TX4, 5, tyX4, ck4, by decide, uw_at 103 (by decide +kernel) rfl, rfl, by decide +kernel, fun h => by cases h⟩
theorem fl_X2_62 : FR "ComplaintDesk$Pattern" 62 4 3 := fp_X2_62.r
theorem fp_X2_75 : FL "ComplaintDesk$Pattern" 75 4 2 .int false := ⟨RX4, TX4, 5, tyX4, ck4, by decide, uw_at 100 (by decide +kernel) rfl, rfl, by decide +kernel, fun h => by cases h⟩
theorem fl_X2_75 : FR "ComplaintDesk$Pattern" 75 4 2 := fp_X2_75.r
theorem fp_X3_9 : FL "ComplaintDesk$Point" 9 3 1 (.object "ComplaintDesk$Cause") false := ⟨RX3, TX3, 4, tyX3, ck3, by decide, uw_at 884 (by decide +kernel) rfl, rfl, by decide +kernel, fun h => by cases h⟩
theorem fl_X3_9 : FR "ComplaintDesk$Point" 9 3 1 := fp_X3_9.r
theorem fp_X3_15 : FL "ComplaintDesk$Point" 15 3 2 .int false := ⟨RX3, TX3, 4, tyX3, ck3, by decide, uw_at 887 (by decide +kernel) rfl, rfl, by decide +kernel, fun h => by cases h⟩
theorem fl_X3_15 : FR "ComplaintDesk$Point" 15 3 2 := fp_X3_15.r
theorem fp_X3_19 : FL "ComplaintDesk$Point" 19 3 3 .int false := ⟨RX3, TX3, 4, tyX3, ck3, by decide, uw_at 889 (by decide +kernel) rfl, rfl, by decide +kernel, fun h => by cases h⟩
theorem fl_X3_19 : FR "ComplaintDesk$Point" 19 3 3 := fp_X3_19.r
theorem fp_X3_22 : FL "ComplaintDesk$Point" 22 3 0 (.array .long) true := ⟨RX3, TX3, 4, tyX3, ck3, by decide, uw_at 882 (by decide +kernel) rfl, rfl, by decide +kernel, fun _ => rfl⟩
theorem fl_X3_22 : FR "ComplaintDesk$Point" 22 3 0 := fp_X3_22.r
theorem fl_X3_26 : FR "ComplaintDesk$Point" 26 0 3 := ⟨RX0, TX0, 6, tyX0, ck0, by decide, uw_at 501 (by decide +kernel) rfl⟩
theorem fl_X3_31 : FR "ComplaintDesk$Point" 31 0 2 := ⟨RX0, TX0, 6, tyX0, ck0, by decide, uw_at 499 (by decide +kernel) rfl⟩
theorem fl_X3_38 : FR "ComplaintDesk$Point" 38 0 4 := ⟨RX0, TX0, 6, tyX0, ck0, by decide, uw_at 503 (by decide +kernel) rfl⟩
theorem fp_X4_9 : FL "ComplaintDesk$Tape" 9 4 0 (.array .byte) true := ⟨RX4, TX4, 5, tyX4, ck4, by decide, uw_at 95 (by decide +kernel) rfl, rfl, by decide +kernel, fun _ => rfl⟩
theorem fl_X4_9 : FR "ComplaintDesk$Tape" 9 4 0 := fp_X4_9.r
theorem fp_X4_15 : FL "ComplaintDesk$Tape" 15 4 1 .int false := ⟨RX4, TX4, 5, tyX4, ck4, by decide, uw_at 96 (by decide +kernel) rfl, rfl, by decide +kernel, fun h => by cases h⟩
theorem fl_X4_15 : FR "ComplaintDesk$Tape" 15 4 1 := fp_X4_15.r
theorem fp_X4_19 : FL "ComplaintDesk$Tape" 19 4 2 .int false := ⟨RX4, TX4, 5, tyX4, ck4, by decide, uw_at 98 (by decide +kernel) rfl, rfl, by decide +kernel, fun h => by cases h⟩
theorem fl_X4_19 : FR "ComplaintDesk$Tape" 19 4 2 := fp_X4_19.r
theorem fp_X4_22 : FL "ComplaintDesk$Tape" 22 4 3 .int false := ⟨RX4, TX4, 5, tyX4, ck4, by decide, uw_at 101 (by decide +kernel) rfl, rfl, by decide +kernel, fun h => by cases h⟩
theorem fl_X4_22 : FR "ComplaintDesk$Tape" 22 4 3 := fp_X4_22.r
theorem fp_X4_25 : FL "ComplaintDesk$Tape" 25 4 4 .int false := ⟨RX4, TX4, 5, tyX4, ck4, by decide, uw_at 104 (by decide +kernel) rfl, rfl, by decide +kernel, fun h => by cases h⟩
theorem fl_X4_25 : FR "ComplaintDesk$Tape" 25 4 4 := fp_X4_25.r
theorem fp_X5_9 : FL "ComplaintDesk$Words" 9 5 0 (.array .long) true := ⟨RX5, TX5, 5, tyX5, ck5, by decide, uw_at 124 (by decide +kernel) rfl, rfl, by decide +kernel, fun _ => rfl⟩
theorem fl_X5_9 : FR "ComplaintDesk$Words" 9 5 0 := fp_X5_9.r
theorem fp_X5_15 : FL "ComplaintDesk$Words" 15 5 1 (.array .int) true := ⟨RX5, TX5, 5, tyX5, ck5, by decide, uw_at 125 (by decide +kernel) rfl, rfl, by decide +kernel, fun _ => rfl⟩
theorem fl_X5_15 : FR "ComplaintDesk$Words" 15 5 1 := fp_X5_15.r
theorem fp_X5_19 : FL "ComplaintDesk$Words" 19 5 2 .int false := ⟨RX5, TX5, 5, tyX5, ck5, by decide, uw_at 128 (by decide +kernel) rfl, rfl, by decide +kernel, fun h => by cases h⟩
theorem fl_X5_19 : FR "ComplaintDesk$Words" 19 5 2 := fp_X5_19.r
theorem fp_X5_23 : FL "ComplaintDesk$Words" 23 5 3 .int false := ⟨RX5, TX5, 5, tyX5, ck5, by decide, uw_at 130 (by decide +kernel) rfl, rfl, by decide +kernel, fun h => by cases h⟩
theorem fl_X5_23 : FR "ComplaintDesk$Words" 23 5 3 := fp_X5_23.r
theorem fp_X5_26 : FL "ComplaintDesk$Words" 26 5 4 .int false := ⟨RX5, TX5, 5, tyX5, ck5, by decide, uw_at 133 (by decide +kernel) rfl, rfl, by decide +kernel, fun h => by cases h⟩
theorem fl_X5_26 : FR "ComplaintDesk$Words" 26 5 4 := fp_X5_26.r
theorem fp_X7_9 : FL "ComplaintDeskModel" 9 7 2 (.array .int) true := ⟨RX7, TX7, 35, tyX7, ck7, by decide, uw_at 1076 (by decide +kernel) rfl, rfl, by decide +kernel, fun _ => rfl⟩
theorem fl_X7_9 : FR "ComplaintDeskModel" 9 7 2 := fp_X7_9.r
theorem fp_X7_13 : FL "ComplaintDeskModel" 13 7 3 (.array .int) true := ⟨RX7, TX7, 35, tyX7, ck7, by decide, uw_at 1077 (by decide +kernel) rfl, rfl, by decide +kernel, fun _ => rfl⟩
theorem fl_X7_13 : FR "ComplaintDeskModel" 13 7 3 := fp_X7_13.r
theorem fp_X7_16 : FL "ComplaintDeskModel" 16 7 4 (.array .int) true := ⟨RX7, TX7, 35, tyX7, ck7, by decide, uw_at 1078 (by decide +kernel) rfl, rfl, by decide +kernel, fun _ => rfl⟩
theorem fl_X7_16 : FR "ComplaintDeskModel" 16 7 4 := fp_X7_16.r
theorem fp_X7_19 : FL "ComplaintDeskModel" 19 7 5 (.array .boolean) true := ⟨RX7, TX7, 35, tyX7, ck7, by decide, uw_at 1079 (by decide +kernel) rfl, rfl, by decide +kernel, fun _ => rfl⟩
theorem fl_X7_19 : FR "ComplaintDeskModel" 19 7 5 := fp_X7_19.r
theorem fp_X7_23 : FL "ComplaintDeskModel" 23 7 6 (.array .int) true := ⟨RX7, TX7, 35, tyX7, ck7, by decide, uw_at 1080 (by decide +kernel) rfl, rfl, by decide +kernel, fun _ => rfl⟩
theorem fl_X7_23 : FR "ComplaintDeskModel" 23 7 6 := fp_X7_23.r
theorem fp_X7_26 : FL "ComplaintDeskModel" 26 7 7 (.array .byte) true := ⟨RX7, TX7, 35, tyX7, ck7, by decide, uw_at 1081 (by decide +kernel) rfl, rfl, by decide +kernel, fun _ => rfl⟩
theorem fl_X7_26 : FR "ComplaintDeskModel" 26 7 7 := fp_X7_26.r
theorem fp_X7_30 : FL "ComplaintDeskModel" 30 7 8 (.array .int) true := ⟨RX7, TX7, 35, tyX7, ck7, by decide, uw_at 1082 (by decide +kernel) rfl, rfl, by decide +kernel, fun _ => rfl⟩
theorem fl_X7_30 : FR "ComplaintDeskModel" 30 7 8 := fp_X7_30.r
theorem fp_X7_33 : FL "ComplaintDeskModel" 33 7 9 (.array .boolean) true := ⟨RX7, TX7, 35, tyX7, ck7, by decide, uw_at 1083 (by decide +kernel) rfl, rfl, by decide +kernel, fun _ => rfl⟩
theorem fl_X7_33 : FR "ComplaintDeskModel" 33 7 9 := fp_X7_33.r
theorem fp_X7_36 : FL "ComplaintDeskModel" 36 7 10 (.array .boolean) true := ⟨RX7, TX7, 35, tyX7, ck7, by decide, uw_at 1084 (by decide +kernel) rfl, rfl, by decide +kernel, fun _ => rfl⟩
theorem fl_X7_36 : FR "ComplaintDeskModel" 36 7 10 := fp_X7_36.r
theorem fp_X7_39 : FL "ComplaintDeskModel" 39 7 12 (.array .int) true := ⟨RX7, TX7, 35, tyX7, ck7, by decide, uw_at 1086 (by decide +kernel) rfl, rfl, by decide +kernel, fun _ => rfl⟩
theorem fl_X7_39 : FR "ComplaintDeskModel" 39 7 12 := fp_X7_39.r
theorem fp_X7_42 : FL "ComplaintDeskModel" 42 7 13 (.array .int) true := ⟨RX7, TX7, 35, tyX7, ck7, by decide, uw_at 1087 (by decide +kernel) rfl, rfl, by decide +kernel, fun _ => rfl⟩
theorem fl_X7_42 : FR "ComplaintDeskModel" 42 7 13 := fp_X7_42.r
theorem fp_X7_45 : FL "ComplaintDeskModel" 45 7 14 (.array .int) true := ⟨RX7, TX7, 35, tyX7, ck7, by decide, uw_at 1088 (by decide +kernel) rfl, rfl, by decide +kernel, fun _ => rfl⟩
theorem fl_X7_45 : FR "ComplaintDeskModel" 45 7 14 := fp_X7_45.r
theorem fp_X7_48 : FL "ComplaintDeskModel" 48 7 15 (.array .int) true := ⟨RX7, TX7, 35, tyX7, ck7, by decide, uw_at 1089 (by decide +kernel) rfl, rfl, by decide +kernel, fun _ => rfl⟩
theorem fl_X7_48 : FR "ComplaintDeskModel" 48 7 15 := fp_X7_48.r
theorem fp_X7_51 : FL "ComplaintDeskModel" 51 7 16 (.array .int) true := ⟨RX7, TX7, 35, tyX7, ck7, by decide, uw_at 1090 (by decide +kernel) rfl, rfl, by decide +kernel, fun _ => rfl⟩
theorem fl_X7_51 : FR "ComplaintDeskModel" 51 7 16 := fp_X7_51.r
theorem fp_X7_54 : FL "ComplaintDeskModel" 54 7 17 (.array .byte) true := ⟨RX7, TX7, 35, tyX7, ck7, by decide, uw_at 1091 (by decide +kernel) rfl, rfl, by decide +kernel, fun _ => rfl⟩
theorem fl_X7_54 : FR "ComplaintDeskModel" 54 7 17 := fp_X7_54.r
theorem fp_X7_57 : FL "ComplaintDeskModel" 57 7 18 (.array .int) true := ⟨RX7, TX7, 35, tyX7, ck7, by decide, uw_at 1092 (by decide +kernel) rfl, rfl, by decide +kernel, fun _ => rfl⟩
theorem fl_X7_57 : FR "ComplaintDeskModel" 57 7 18 := fp_X7_57.r
theorem fp_X7_60 : FL "ComplaintDeskModel" 60 7 19 (.array .int) true := ⟨RX7, TX7, 35, tyX7, ck7, by decide, uw_at 1093 (by decide +kernel) rfl, rfl, by decide +kernel, fun _ => rfl⟩
theorem fl_X7_60 : FR "ComplaintDeskModel" 60 7 19 := fp_X7_60.r
theorem fp_X7_63 : FL "ComplaintDeskModel" 63 7 20 (.array .int) true := ⟨RX7, TX7, 35, tyX7, ck7, by decide, uw_at 1094 (by decide +kernel) rfl, rfl, by decide +kernel, fun _ => rfl⟩
theorem fl_X7_63 : FR "ComplaintDeskModel" 63 7 20 := fp_X7_63.r
theorem fp_X7_66 : FL "ComplaintDeskModel" 66 7 22 (.array .int) true := ⟨RX7, TX7, 35, tyX7, ck7, by decide, uw_at 1096 (by decide +kernel) rfl, rfl, by decide +kernel, fun _ => rfl⟩
theorem fl_X7_66 : FR "ComplaintDeskModel" 66 7 22 := fp_X7_66.r
theorem fp_X7_69 : FL "ComplaintDeskModel" 69 7 23 (.array .int) true := ⟨RX7, TX7, 35, tyX7, ck7, by decide, uw_at 1097 (by decide +kernel) rfl, rfl, by decide +kernel, fun _ => rfl⟩
theorem fl_X7_69 : FR "ComplaintDeskModel" 69 7 23 := fp_X7_69.r
theorem fp_X7_72 : FL "ComplaintDeskModel" 72 7 24 (.array .int) true := ⟨RX7, TX7, 35, tyX7, ck7, by decide, uw_at 1098 (by decide +kernel) rfl, rfl, by decide +kernel, fun _ => rfl⟩
theorem fl_X7_72 : FR "ComplaintDeskModel" 72 7 24 := fp_X7_72.r
theorem fp_X7_75 : FL "ComplaintDeskModel" 75 7 25 (.array .int) true := ⟨RX7, TX7, 35, tyX7, ck7, by decide, uw_at 1099 (by decide +kernel) rfl, rfl, by decide +kernel, fun _ => rfl⟩
theorem fl_X7_75 : FR "ComplaintDeskModel" 75 7 25 := fp_X7_75.r
theorem fp_X7_78 : FL "ComplaintDeskModel" 78 7 27 (.array .byte) true := ⟨RX7, TX7, 35, tyX7, ck7, by decide, uw_at 1101 (by decide +kernel) rfl, rfl, by decide +kernel, fun _ => rfl⟩
theorem fl_X7_78 : FR "ComplaintDeskModel" 78 7 27 := fp_X7_78.r
theorem fp_X7_81 : FL "ComplaintDeskModel" 81 7 32 .int false := ⟨RX7, TX7, 35, tyX7, ck7, by decide, uw_at 1106 (by decide +kernel) rfl, rfl, by decide +kernel, fun h => by cases h⟩
theorem fl_X7_81 : FR "ComplaintDeskModel" 81 7 32 := fp_X7_81.r
theorem fp_X7_85 : FL "ComplaintDeskModel" 85 7 33 (.array .int) true := ⟨RX7, TX7, 35, tyX7, ck7, by decide, uw_at 1107 (by decide +kernel) rfl, rfl, by decide +kernel, fun _ => rfl⟩
theorem fl_X7_85 : FR "ComplaintDeskModel" 85 7 33 := fp_X7_85.r
theorem fp_X7_88 : FL "ComplaintDeskModel" 88 7 34 (.array .int) true := ⟨RX7, TX7, 35, tyX7, ck7, by decide, uw_at 1108 (by decide +kernel) rfl, rfl, by decide +kernel, fun _ => rfl⟩
theorem fl_X7_88 : FR "ComplaintDeskModel" 88 7 34 := fp_X7_88.r
theorem fp_X7_91 : FL "ComplaintDeskModel" 91 7 0 .int false := ⟨RX7, TX7, 35, tyX7, ck7, by decide, uw_at 1074 (by decide +kernel) rfl, rfl, by decide +kernel, fun h => by cases h⟩
theorem fl_X7_91 : FR "ComplaintDeskModel" 91 7 0 := fp_X7_91.r
theorem fp_X7_94 : FL "ComplaintDeskModel" 94 7 11 .int false := ⟨RX7, TX7, 35, tyX7, ck7, by decide, uw_at 1085 (by decide +kernel) rfl, rfl, by decide +kernel, fun h => by cases h⟩
theorem fl_X7_94 : FR "ComplaintDeskModel" 94 7 11 := fp_X7_94.r
theorem fp_X7_101 : FL "ComplaintDeskModel" 101 7 21 .int false := ⟨RX7, TX7, 35, tyX7, ck7, by decide, uw_at 1095 (by decide +kernel) rfl, rfl, by decide +kernel, fun h => by cases h⟩
theorem fl_X7_101 : FR "ComplaintDeskModel" 101 7 21 := fp_X7_101.r
theorem fp_X7_108 : FL "ComplaintDeskModel" 108 7 28 .int false := ⟨RX7, TX7, 35, tyX7, ck7, by decide, uw_at 1102 (by decide +kernel) rfl, rfl, by decide +kernel, fun h => by cases h⟩
theorem fl_X7_108 : FR "ComplaintDeskModel" 108 7 28 := fp_X7_108.r
theorem fp_X7_111 : FL "ComplaintDeskModel" 111 7 30 .int false := ⟨RX7, TX7, 35, tyX7, ck7, by decide, uw_at 1104 (by decide +kernel) rfl, rfl, by decide +kernel, fun h => by cases h⟩
theorem fl_X7_111 : FR "ComplaintDeskModel" 111 7 30 := fp_X7_111.r
theorem fp_X7_114 : FL "ComplaintDeskModel" 114 7 29 .int false := ⟨RX7, TX7, 35, tyX7, ck7, by decide, uw_at 1103 (by decide +kernel) rfl, rfl, by decide +kernel, fun h => by cases h⟩
theorem fl_X7_114 : FR "ComplaintDeskModel" 114 7 29 := fp_X7_114.r
theorem fp_X7_121 : FL "ComplaintDeskModel" 121 7 31 .int false := ⟨RX7, TX7, 35, tyX7, ck7, by decide, uw_at 1105 (by decide +kernel) rfl, rfl, by decide +kernel, fun h => by cases h⟩
theorem fl_X7_121 : FR "ComplaintDeskModel" 121 7 31 := fp_X7_121.r
theorem fp_X7_201 : FL "ComplaintDeskModel" 201 7 1 .int false := ⟨RX7, TX7, 35, tyX7, ck7, by decide, uw_at 1075 (by decide +kernel) rfl, rfl, by decide +kernel, fun h => by cases h⟩
theorem fl_X7_201 : FR "ComplaintDeskModel" 201 7 1 := fp_X7_201.r
theorem fp_X7_217 : FL "ComplaintDeskModel" 217 7 26 .int false := ⟨RX7, TX7, 35, tyX7, ck7, by decide, uw_at 1100 (by decide +kernel) rfl, rfl, by decide +kernel, fun h => by cases h⟩
theorem fl_X7_217 : FR "ComplaintDeskModel" 217 7 26 := fp_X7_217.r
theorem fp_AL_9 : FL "java/util/ArrayList" 9 8 1 (.array (.object "java/lang/Object")) false := ⟨RJx4a65c, TJx4a65c, 3, tyJx4a65c, ck8, by decide, uw_at 162 (by decide +kernel) rfl, rfl, by decide +kernel, fun h => by cases h⟩
theorem fl_AL_9 : FR "java/util/ArrayList" 9 8 1 := fp_AL_9.r
theorem fp_AL_48 : FL "java/util/ArrayList" 48 8 2 .int false := ⟨RJx4a65c, TJx4a65c, 3, tyJx4a65c, ck8, by decide, uw_at 163 (by decide +kernel) rfl, rfl, by decide +kernel, fun h => by cases h⟩
theorem fl_AL_48 : FR "java/util/ArrayList" 48 8 2 := fp_AL_48.r
abbrev M_Jx4a65c_init_da8c8 : gM := (yJx4a65c_init_da8c8, cJx4a65c_init_da8c8, 1, none)
theorem ml_X6_32 : MLi "ComplaintDesk" 32 M_Jx4a65c_init_da8c8 0 := ⟨⟨uw_at 150 (by decide +kernel) rfl, uw_at 152 (by decide +kernel) rfl, uw_at 55 (by decide +kernel) rfl, ⟨by decide +kernel, by decide +kernel⟩, by decide +kernel, by decide⟩, uw_at 151 (by decide +kernel) rfl, rfl⟩
abbrev M_X4_hasRoom : gM := (yX4_hasRoom, cX4_hasRoom, 1, (some .boolean))
theorem ml_X6_56 : MLv "ComplaintDesk" 56 M_X4_hasRoom 0 := ⟨⟨uw_at 212 (by decide +kernel) rfl, uw_at 215 (by decide +kernel) rfl, uw_at 51 (by decide +kernel) rfl, ⟨by decide +kernel, by decide +kernel⟩, by decide +kernel, by decide⟩, uw_at 213 (by decide +kernel) rfl, uw_at 214 (by decide +kernel) rfl⟩
abbrev M_X4_append : gM := (yX4_append, cX4_append, 3, none)
theorem ml_X6_60 : MLv "ComplaintDesk" 60 M_X4_append 1 := ⟨⟨uw_at 216 (by decide +kernel) rfl, uw_at 219 (by decide +kernel) rfl, uw_at 51 (by decide +kernel) rfl, ⟨by decide +kernel, by decide +kernel⟩, by decide +kernel, by decide⟩, uw_at 217 (by decide +kernel) rfl, uw_at 218 (by decide +kernel) rfl⟩
abbrev M_X4_shorten : gM := (yX4_shorten, cX4_shorten, 2, (some .boolean))
theorem ml_X6_67 : MLv "ComplaintDesk" 67 M_X4_shorten 1 := ⟨⟨uw_at 224 (by decide +kernel) rfl, uw_at 227 (by decide +kernel) rfl, uw_at 51 (by decide +kernel) rfl, ⟨by decide +kernel, by decide +kernel⟩, by decide +kernel, by decide⟩, uw_at 225 (by decide +kernel) rfl, uw_at 226 (by decide +kernel) rfl⟩
abbrev M_X4_useUp : gM := (yX4_useUp, cX4_useUp, 1, none)
theorem ml_X6_71 : MLv "ComplaintDesk" 71 M_X4_useUp 0 := ⟨⟨uw_at 289 (by decide +kernel) rfl, uw_at 292 (by decide +kernel) rfl, uw_at 51 (by decide +kernel) rfl, ⟨by decide +kernel, by decide +kernel⟩, by decide +kernel, by decide⟩, uw_at 290 (by decide +kernel) rfl, uw_at 291 (by decide +kernel) rfl⟩
abbrev M_X6_causeAt : gM := (yX6_causeAt, cX6_causeAt, 2, (some (.object "ComplaintDesk$Cause")))
theorem ml_X6_74 : MLv "ComplaintDesk" 74 M_X6_causeAt 1 := ⟨⟨uw_at 293 (by decide +kernel) rfl, uw_at 296 (by decide +kernel) rfl, uw_at 50 (by decide +kernel) rfl, ⟨by decide +kernel, by decide +kernel⟩, by decide +kernel, by decide⟩, uw_at 295 (by decide +kernel) rfl, uw_at 2 (by decide +kernel) rfl⟩
abbrev M_X6_checkDesk : gM := (yX6_checkDesk, cX6_checkDesk, 1, none)
theorem ml_X6_78 : MLs "ComplaintDesk" 78 M_X6_checkDesk 1 := ⟨⟨uw_at 366 (by decide +kernel) rfl, uw_at 368 (by decide +kernel) rfl, uw_at 50 (by decide +kernel) rfl, ⟨by decide +kernel, by decide +kernel⟩, by decide +kernel, by decide⟩, uw_at 367 (by decide +kernel) rfl⟩
abbrev M_X6_readPattern : gM := (yX6_readPattern, cX6_readPattern, 1, (some (.object "ComplaintDesk$Pattern")))
theorem ml_X6_88 : MLv "ComplaintDesk" 88 M_X6_readPattern 0 := ⟨⟨uw_at 386 (by decide +kernel) rfl, uw_at 389 (by decide +kernel) rfl, uw_at 50 (by decide +kernel) rfl, ⟨by decide +kernel, by decide +kernel⟩, by decide +kernel, by decide⟩, uw_at 388 (by decide +kernel) rfl, uw_at 4 (by decide +kernel) rfl⟩
abbrev M_Jx4a65c_size_8abf5 : gM := (yJx4a65c_size_8abf5, cJx4a65c_size_8abf5, 1, (some .int))
theorem ml_X6_92 : MLv "ComplaintDesk" 92 M_Jx4a65c_size_8abf5 0 := ⟨⟨uw_at 236 (by decide +kernel) rfl, uw_at 239 (by decide +kernel) rfl, uw_at 55 (by decide +kernel) rfl, ⟨by decide +kernel, by decide +kernel⟩, by decide +kernel, by decide⟩, uw_at 237 (by decide +kernel) rfl, uw_at 238 (by decide +kernel) rfl⟩
abbrev M_X0_init : gM := (yX0_init, cX0_init, 7, none)
theorem ml_X6_103 : MLi "ComplaintDesk" 103 M_X0_init 6 := ⟨⟨uw_at 489 (by decide +kernel) rfl, uw_at 491 (by decide +kernel) rfl, uw_at 69 (by decide +kernel) rfl, ⟨by decide +kernel, by decide +kernel⟩, by decide +kernel, by decide⟩, uw_at 490 (by decide +kernel) rfl, rfl⟩
abbrev M_Jx4a65c_add_9ea2d : gM := (yJx4a65c_add_9ea2d, cJx4a65c_add_9ea2d, 2, (some .boolean))
theorem ml_X6_106 : MLv "ComplaintDesk" 106 M_Jx4a65c_add_9ea2d 1 := ⟨⟨uw_at 519 (by decide +kernel) rfl, uw_at 522 (by decide +kernel) rfl, uw_at 55 (by decide +kernel) rfl, ⟨by decide +kernel, by decide +kernel⟩, by decide +kernel, by decide⟩, uw_at 520 (by decide +kernel) rfl, uw_at 521 (by decide +kernel) rfl⟩
abbrev M_X6_sortAnew : gM := (yX6_sortAnew, cX6_sortAnew, 6, (some .int))
theorem ml_X6_114 : MLv "ComplaintDesk" 114 M_X6_sortAnew 0 := ⟨⟨uw_at 582 (by decide +kernel) rfl, uw_at 585 (by decide +kernel) rfl, uw_at 50 (by decide +kernel) rfl, ⟨by decide +kernel, by decide +kernel⟩, by decide +kernel, by decide⟩, uw_at 584 (by decide +kernel) rfl, uw_at 10 (by decide +kernel) rfl⟩
abbrev M_X1_firstWrong : gM := (yX1_firstWrong, cX1_firstWrong, 4, (some .int))
theorem ml_X6_119 : MLs "ComplaintDesk" 119 M_X1_firstWrong 2 := ⟨⟨uw_at 611 (by decide +kernel) rfl, uw_at 613 (by decide +kernel) rfl, uw_at 74 (by decide +kernel) rfl, ⟨by decide +kernel, by decide +kernel⟩, by decide +kernel, by decide⟩, uw_at 612 (by decide +kernel) rfl⟩
abbrev M_X1_init : gM := (yX1_init, cX1_init, 3, none)
theorem ml_X6_129 : MLi "ComplaintDesk" 129 M_X1_init 2 := ⟨⟨uw_at 626 (by decide +kernel) rfl, uw_at 628 (by decide +kernel) rfl, uw_at 74 (by decide +kernel) rfl, ⟨by decide +kernel, by decide +kernel⟩, by decide +kernel, by decide⟩, uw_at 627 (by decide +kernel) rfl, rfl⟩
abbrev M_X5_codesOf : gM := (yX5_codesOf, cX5_codesOf, 4, (some (.array .long)))
theorem ml_X6_137 : MLv "ComplaintDesk" 137 M_X5_codesOf 1 := ⟨⟨uw_at 646 (by decide +kernel) rfl, uw_at 649 (by decide +kernel) rfl, uw_at 52 (by decide +kernel) rfl, ⟨by decide +kernel, by decide +kernel⟩, by decide +kernel, by decide⟩, uw_at 647 (by decide +kernel) rfl, uw_at 648 (by decide +kernel) rfl⟩
abbrev M_X3_init : gM := (yX3_init, cX3_init, 2, none)
theorem ml_X6_141 : MLi "ComplaintDesk" 141 M_X3_init 1 := ⟨⟨uw_at 878 (by decide +kernel) rfl, uw_at 880 (by decide +kernel) rfl, uw_at 75 (by decide +kernel) rfl, ⟨by decide +kernel, by decide +kernel⟩, by decide +kernel, by decide⟩, uw_at 879 (by decide +kernel) rfl, rfl⟩
abbrev M_X6_causeOf : gM := (yX6_causeOf, cX6_causeOf, 5, (some (.object "ComplaintDesk$Cause")))
theorem ml_X6_144 : MLv "ComplaintDesk" 144 M_X6_causeOf 1 := ⟨⟨uw_at 587 (by decide +kernel) rfl, uw_at 590 (by decide +kernel) rfl, uw_at 50 (by decide +kernel) rfl, ⟨by decide +kernel, by decide +kernel⟩, by decide +kernel, by decide⟩, uw_at 589 (by decide +kernel) rfl, uw_at 11 (by decide +kernel) rfl⟩
abbrev M_X3_putTo : gM := (yX3_putTo, cX3_putTo, 3, (some .boolean))
theorem ml_X6_151 : MLv "ComplaintDesk" 151 M_X3_putTo 2 := ⟨⟨uw_at 599 (by decide +kernel) rfl, uw_at 602 (by decide +kernel) rfl, uw_at 75 (by decide +kernel) rfl, ⟨by decide +kernel, by decide +kernel⟩, by decide +kernel, by decide⟩, uw_at 600 (by decide +kernel) rfl, uw_at 601 (by decide +kernel) rfl⟩
abbrev M_X6_work : gM := (yX6_work, cX6_work, 4, none)
theorem ml_X6_160 : MLv "ComplaintDesk" 160 M_X6_work 1 := ⟨⟨uw_at 915 (by decide +kernel) rfl, uw_at 918 (by decide +kernel) rfl, uw_at 50 (by decide +kernel) rfl, ⟨by decide +kernel, by decide +kernel⟩, by decide +kernel, by decide⟩, uw_at 917 (by decide +kernel) rfl, uw_at 12 (by decide +kernel) rfl⟩
abbrev M_X6_letterAt : gM := (yX6_letterAt, cX6_letterAt, 2, (some (.object "ComplaintDesk$Letter")))
theorem ml_X6_163 : MLv "ComplaintDesk" 163 M_X6_letterAt 1 := ⟨⟨uw_at 942 (by decide +kernel) rfl, uw_at 945 (by decide +kernel) rfl, uw_at 50 (by decide +kernel) rfl, ⟨by decide +kernel, by decide +kernel⟩, by decide +kernel, by decide⟩, uw_at 944 (by decide +kernel) rfl, uw_at 15 (by decide +kernel) rfl⟩
abbrev M_X1_pointAt : gM := (yX1_pointAt, cX1_pointAt, 2, (some (.object "ComplaintDesk$Point")))
theorem ml_X6_167 : MLv "ComplaintDesk" 167 M_X1_pointAt 1 := ⟨⟨uw_at 947 (by decide +kernel) rfl, uw_at 950 (by decide +kernel) rfl, uw_at 74 (by decide +kernel) rfl, ⟨by decide +kernel, by decide +kernel⟩, by decide +kernel, by decide⟩, uw_at 948 (by decide +kernel) rfl, uw_at 949 (by decide +kernel) rfl⟩
abbrev M_X3_isAnswered : gM := (yX3_isAnswered, cX3_isAnswered, 1, (some .boolean))
theorem ml_X6_171 : MLv "ComplaintDesk" 171 M_X3_isAnswered 0 := ⟨⟨uw_at 586 (by decide +kernel) rfl, uw_at 269 (by decide +kernel) rfl, uw_at 75 (by decide +kernel) rfl, ⟨by decide +kernel, by decide +kernel⟩, by decide +kernel, by decide⟩, uw_at 267 (by decide +kernel) rfl, uw_at 268 (by decide +kernel) rfl⟩
abbrev M_X6_matter : gM := (yX6_matter, cX6_matter, 7, (some .int))
theorem ml_X6_190 : MLv "ComplaintDesk" 190 M_X6_matter 2 := ⟨⟨uw_at 962 (by decide +kernel) rfl, uw_at 965 (by decide +kernel) rfl, uw_at 50 (by decide +kernel) rfl, ⟨by decide +kernel, by decide +kernel⟩, by decide +kernel, by decide⟩, uw_at 964 (by decide +kernel) rfl, uw_at 16 (by decide +kernel) rfl⟩
abbrev M_X1_isClosed : gM := (yX1_isClosed, cX1_isClosed, 2, (some .boolean))
theorem ml_X6_203 : MLv "ComplaintDesk" 203 M_X1_isClosed 0 := ⟨⟨uw_at 259 (by decide +kernel) rfl, uw_at 262 (by decide +kernel) rfl, uw_at 74 (by decide +kernel) rfl, ⟨by decide +kernel, by decide +kernel⟩, by decide +kernel, by decide⟩, uw_at 260 (by decide +kernel) rfl, uw_at 261 (by decide +kernel) rfl⟩
abbrev M_X1_causeBits : gM := (yX1_causeBits, cX1_causeBits, 4, (some .int))
theorem ml_X6_206 : MLv "ComplaintDesk" 206 M_X1_causeBits 0 := ⟨⟨uw_at 989 (by decide +kernel) rfl, uw_at 992 (by decide +kernel) rfl, uw_at 74 (by decide +kernel) rfl, ⟨by decide +kernel, by decide +kernel⟩, by decide +kernel, by decide⟩, uw_at 990 (by decide +kernel) rfl, uw_at 991 (by decide +kernel) rfl⟩
abbrev M_X6_fewestTemplates : gM := (yX6_fewestTemplates, cX6_fewestTemplates, 6, (some .int))
theorem ml_X6_209 : MLv "ComplaintDesk" 209 M_X6_fewestTemplates 1 := ⟨⟨uw_at 993 (by decide +kernel) rfl, uw_at 996 (by decide +kernel) rfl, uw_at 50 (by decide +kernel) rfl, ⟨by decide +kernel, by decide +kernel⟩, by decide +kernel, by decide⟩, uw_at 995 (by decide +kernel) rfl, uw_at 17 (by decide +kernel) rfl⟩
abbrev M_X6_fillDueInDays : gM := (yX6_fillDueInDays, cX6_fillDueInDays, 8, (some .int))
theorem ml_X6_215 : MLv "ComplaintDesk" 215 M_X6_fillDueInDays 1 := ⟨⟨uw_at 1015 (by decide +kernel) rfl, uw_at 1018 (by decide +kernel) rfl, uw_at 50 (by decide +kernel) rfl, ⟨by decide +kernel, by decide +kernel⟩, by decide +kernel, by decide⟩, uw_at 1017 (by decide +kernel) rfl, uw_at 19 (by decide +kernel) rfl⟩
abbrev M_J9_min_7cf53 : gM := (yJ9_min_7cf53, cJ9_min_7cf53, 2, (some .int))
theorem ml_X6_218 : MLs "ComplaintDesk" 218 M_J9_min_7cf53 2 := ⟨⟨uw_at 1022 (by decide +kernel) rfl, uw_at 450 (by decide +kernel) rfl, uw_at 66 (by decide +kernel) rfl, ⟨by decide +kernel, by decide +kernel⟩, by decide +kernel, by decide⟩, uw_at 449 (by decide +kernel) rfl⟩
abbrev M_Jx4a65c_get_915e3 : gM := (yJx4a65c_get_915e3, cJx4a65c_get_915e3, 2, (some (.object "java/lang/Object")))
theorem ml_X6_224 : MLv "ComplaintDesk" 224 M_Jx4a65c_get_915e3 1 := ⟨⟨uw_at 244 (by decide +kernel) rfl, uw_at 247 (by decide +kernel) rfl, uw_at 55 (by decide +kernel) rfl, ⟨by decide +kernel, by decide +kernel⟩, by decide +kernel, by decide⟩, uw_at 245 (by decide +kernel) rfl, uw_at 246 (by decide +kernel) rfl⟩
abbrev M_X3_isWaitingAt : gM := (yX3_isWaitingAt, cX3_isWaitingAt, 2, (some .boolean))
theorem ml_X6_228 : MLv "ComplaintDesk" 228 M_X3_isWaitingAt 1 := ⟨⟨uw_at 923 (by decide +kernel) rfl, uw_at 926 (by decide +kernel) rfl, uw_at 75 (by decide +kernel) rfl, ⟨by decide +kernel, by decide +kernel⟩, by decide +kernel, by decide⟩, uw_at 924 (by decide +kernel) rfl, uw_at 925 (by decide +kernel) rfl⟩
abbrev M_X6_fillCountOfDay : gM := (yX6_fillCountOfDay, cX6_fillCountOfDay, 4, none)
theorem ml_X6_233 : MLv "ComplaintDesk" 233 M_X6_fillCountOfDay 1 := ⟨⟨uw_at 1045 (by decide +kernel) rfl, uw_at 1048 (by decide +kernel) rfl, uw_at 50 (by decide +kernel) rfl, ⟨by decide +kernel, by decide +kernel⟩, by decide +kernel, by decide⟩, uw_at 1047 (by decide +kernel) rfl, uw_at 20 (by decide +kernel) rfl⟩
abbrev M_X6_isRare : gM := (yX6_isRare, cX6_isRare, 4, (some .boolean))
theorem ml_X6_237 : MLv "ComplaintDesk" 237 M_X6_isRare 1 := ⟨⟨uw_at 1064 (by decide +kernel) rfl, uw_at 1067 (by decide +kernel) rfl, uw_at 50 (by decide +kernel) rfl, ⟨by decide +kernel, by decide +kernel⟩, by decide +kernel, by decide⟩, uw_at 1066 (by decide +kernel) rfl, uw_at 21 (by decide +kernel) rfl⟩
abbrev M_X6_closedLetters : gM := (yX6_closedLetters, cX6_closedLetters, 3, (some .int))
theorem ml_X6_240 : MLv "ComplaintDesk" 240 M_X6_closedLetters 0 := ⟨⟨uw_at 240 (by decide +kernel) rfl, uw_at 243 (by decide +kernel) rfl, uw_at 50 (by decide +kernel) rfl, ⟨by decide +kernel, by decide +kernel⟩, by decide +kernel, by decide⟩, uw_at 242 (by decide +kernel) rfl, uw_at 0 (by decide +kernel) rfl⟩
abbrev M_X6_pointsCounted : gM := (yX6_pointsCounted, cX6_pointsCounted, 6, (some .int))
theorem ml_X6_243 : MLv "ComplaintDesk" 243 M_X6_pointsCounted 1 := ⟨⟨uw_at 270 (by decide +kernel) rfl, uw_at 273 (by decide +kernel) rfl, uw_at 50 (by decide +kernel) rfl, ⟨by decide +kernel, by decide +kernel⟩, by decide +kernel, by decide⟩, uw_at 272 (by decide +kernel) rfl, uw_at 1 (by decide +kernel) rfl⟩
abbrev M_X2_firstWrong : gM := (yX2_firstWrong, cX2_firstWrong, 7, (some .int))
theorem ml_X6_255 : MLs "ComplaintDesk" 255 M_X2_firstWrong 2 := ⟨⟨uw_at 390 (by decide +kernel) rfl, uw_at 392 (by decide +kernel) rfl, uw_at 64 (by decide +kernel) rfl, ⟨by decide +kernel, by decide +kernel⟩, by decide +kernel, by decide⟩, uw_at 391 (by decide +kernel) rfl⟩
abbrev M_X2_init : gM := (yX2_init, cX2_init, 2, none)
theorem ml_X6_258 : MLi "ComplaintDesk" 258 M_X2_init 1 := ⟨⟨uw_at 434 (by decide +kernel) rfl, uw_at 436 (by decide +kernel) rfl, uw_at 64 (by decide +kernel) rfl, ⟨by decide +kernel, by decide +kernel⟩, by decide +kernel, by decide⟩, uw_at 435 (by decide +kernel) rfl, rfl⟩
abbrev M_X2_fits : gM := (yX2_fits, cX2_fits, 6, (some .boolean))
theorem ml_X6_264 : MLv "ComplaintDesk" 264 M_X2_fits 1 := ⟨⟨uw_at 591 (by decide +kernel) rfl, uw_at 594 (by decide +kernel) rfl, uw_at 64 (by decide +kernel) rfl, ⟨by decide +kernel, by decide +kernel⟩, by decide +kernel, by decide⟩, uw_at 592 (by decide +kernel) rfl, uw_at 593 (by decide +kernel) rfl⟩
abbrev M_X6_firstWaiting : gM := (yX6_firstWaiting, cX6_firstWaiting, 7, (some (.object "ComplaintDesk$Point")))
theorem ml_X6_268 : MLv "ComplaintDesk" 268 M_X6_firstWaiting 1 := ⟨⟨uw_at 919 (by decide +kernel) rfl, uw_at 922 (by decide +kernel) rfl, uw_at 50 (by decide +kernel) rfl, ⟨by decide +kernel, by decide +kernel⟩, by decide +kernel, by decide⟩, uw_at 921 (by decide +kernel) rfl, uw_at 13 (by decide +kernel) rfl⟩
abbrev M_X3_isMorePressing : gM := (yX3_isMorePressing, cX3_isMorePressing, 2, (some .boolean))
theorem ml_X6_271 : MLv "ComplaintDesk" 271 M_X3_isMorePressing 1 := ⟨⟨uw_at 927 (by decide +kernel) rfl, uw_at 930 (by decide +kernel) rfl, uw_at 75 (by decide +kernel) rfl, ⟨by decide +kernel, by decide +kernel⟩, by decide +kernel, by decide⟩, uw_at 928 (by decide +kernel) rfl, uw_at 929 (by decide +kernel) rfl⟩
abbrev M_J6_bitCount_0f7a4 : gM := (yJ6_bitCount_0f7a4, cJ6_bitCount_0f7a4, 1, (some .int))
theorem ml_X6_274 : MLs "ComplaintDesk" 274 M_J6_bitCount_0f7a4 1 := ⟨⟨uw_at 997 (by decide +kernel) rfl, uw_at 999 (by decide +kernel) rfl, uw_at 79 (by decide +kernel) rfl, ⟨by decide +kernel, by decide +kernel⟩, by decide +kernel, by decide⟩, uw_at 998 (by decide +kernel) rfl⟩
abbrev M_X6_causesOfSet : gM := (yX6_causesOfSet, cX6_causesOfSet, 4, (some .int))
theorem ml_X6_279 : MLv "ComplaintDesk" 279 M_X6_causesOfSet 1 := ⟨⟨uw_at 1003 (by decide +kernel) rfl, uw_at 1006 (by decide +kernel) rfl, uw_at 50 (by decide +kernel) rfl, ⟨by decide +kernel, by decide +kernel⟩, by decide +kernel, by decide⟩, uw_at 1005 (by decide +kernel) rfl, uw_at 18 (by decide +kernel) rfl⟩
abbrev M_J7_fill_53178 : gM := (yJ7_fill_53178, cJ7_fill_53178, 4, none)
theorem ml_X6_282 : MLs "ComplaintDesk" 282 M_J7_fill_53178 2 := ⟨⟨uw_at 1019 (by decide +kernel) rfl, uw_at 1021 (by decide +kernel) rfl, uw_at 65 (by decide +kernel) rfl, ⟨by decide +kernel, by decide +kernel⟩, by decide +kernel, by decide⟩, uw_at 1020 (by decide +kernel) rfl⟩
abbrev M_X1_pointsUnder : gM := (yX1_pointsUnder, cX1_pointsUnder, 5, (some .int))
theorem ml_X6_288 : MLv "ComplaintDesk" 288 M_X1_pointsUnder 1 := ⟨⟨uw_at 1049 (by decide +kernel) rfl, uw_at 1052 (by decide +kernel) rfl, uw_at 74 (by decide +kernel) rfl, ⟨by decide +kernel, by decide +kernel⟩, by decide +kernel, by decide⟩, uw_at 1050 (by decide +kernel) rfl, uw_at 1051 (by decide +kernel) rfl⟩
abbrev M_X3_isCountedAs : gM := (yX3_isCountedAs, cX3_isCountedAs, 2, (some .boolean))
theorem ml_X6_292 : MLv "ComplaintDesk" 292 M_X3_isCountedAs 1 := ⟨⟨uw_at 275 (by decide +kernel) rfl, uw_at 278 (by decide +kernel) rfl, uw_at 75 (by decide +kernel) rfl, ⟨by decide +kernel, by decide +kernel⟩, by decide +kernel, by decide⟩, uw_at 276 (by decide +kernel) rfl, uw_at 277 (by decide +kernel) rfl⟩
theorem ml_X1_11 : MLi "ComplaintDesk$Letter" 11 M_Jx4a65c_init_da8c8 0 := ⟨⟨uw_at 631 (by decide +kernel) rfl, uw_at 152 (by decide +kernel) rfl, uw_at 55 (by decide +kernel) rfl, ⟨by decide +kernel, by decide +kernel⟩, by decide +kernel, by decide⟩, uw_at 151 (by decide +kernel) rfl, rfl⟩
abbrev M_X5_clear : gM := (yX5_clear, cX5_clear, 1, none)
theorem ml_X1_25 : MLv "ComplaintDesk$Letter" 25 M_X5_clear 0 := ⟨⟨uw_at 614 (by decide +kernel) rfl, uw_at 396 (by decide +kernel) rfl, uw_at 52 (by decide +kernel) rfl, ⟨by decide +kernel, by decide +kernel⟩, by decide +kernel, by decide⟩, uw_at 394 (by decide +kernel) rfl, uw_at 395 (by decide +kernel) rfl⟩
abbrev M_X4_next : gM := (yX4_next, cX4_next, 1, (some .boolean))
theorem ml_X1_30 : MLv "ComplaintDesk$Letter" 30 M_X4_next 0 := ⟨⟨uw_at 615 (by decide +kernel) rfl, uw_at 404 (by decide +kernel) rfl, uw_at 51 (by decide +kernel) rfl, ⟨by decide +kernel, by decide +kernel⟩, by decide +kernel, by decide⟩, uw_at 402 (by decide +kernel) rfl, uw_at 403 (by decide +kernel) rfl⟩
abbrev M_X4_isWord : gM := (yX4_isWord, cX4_isWord, 1, (some .boolean))
theorem ml_X1_36 : MLv "ComplaintDesk$Letter" 36 M_X4_isWord 0 := ⟨⟨uw_at 616 (by decide +kernel) rfl, uw_at 420 (by decide +kernel) rfl, uw_at 51 (by decide +kernel) rfl, ⟨by decide +kernel, by decide +kernel⟩, by decide +kernel, by decide⟩, uw_at 418 (by decide +kernel) rfl, uw_at 419 (by decide +kernel) rfl⟩
abbrev M_X5_beginPart : gM := (yX5_beginPart, cX5_beginPart, 1, none)
theorem ml_X1_45 : MLv "ComplaintDesk$Letter" 45 M_X5_beginPart 0 := ⟨⟨uw_at 617 (by decide +kernel) rfl, uw_at 400 (by decide +kernel) rfl, uw_at 52 (by decide +kernel) rfl, ⟨by decide +kernel, by decide +kernel⟩, by decide +kernel, by decide⟩, uw_at 398 (by decide +kernel) rfl, uw_at 399 (by decide +kernel) rfl⟩
abbrev M_X4_codeOfThing : gM := (yX4_codeOfThing, cX4_codeOfThing, 4, (some .long))
theorem ml_X1_51 : MLv "ComplaintDesk$Letter" 51 M_X4_codeOfThing 0 := ⟨⟨uw_at 618 (by decide +kernel) rfl, uw_at 416 (by decide +kernel) rfl, uw_at 51 (by decide +kernel) rfl, ⟨by decide +kernel, by decide +kernel⟩, by decide +kernel, by decide⟩, uw_at 414 (by decide +kernel) rfl, uw_at 415 (by decide +kernel) rfl⟩
abbrev M_X5_add : gM := (yX5_add, cX5_add, 4, none)
theorem ml_X1_55 : MLv "ComplaintDesk$Letter" 55 M_X5_add 2 := ⟨⟨uw_at 619 (by decide +kernel) rfl, uw_at 430 (by decide +kernel) rfl, uw_at 52 (by decide +kernel) rfl, ⟨by decide +kernel, by decide +kernel⟩, by decide +kernel, by decide⟩, uw_at 428 (by decide +kernel) rfl, uw_at 429 (by decide +kernel) rfl⟩
abbrev M_X4_isStop : gM := (yX4_isStop, cX4_isStop, 1, (some .boolean))
theorem ml_X1_59 : MLv "ComplaintDesk$Letter" 59 M_X4_isStop 0 := ⟨⟨uw_at 620 (by decide +kernel) rfl, uw_at 623 (by decide +kernel) rfl, uw_at 51 (by decide +kernel) rfl, ⟨by decide +kernel, by decide +kernel⟩, by decide +kernel, by decide⟩, uw_at 621 (by decide +kernel) rfl, uw_at 622 (by decide +kernel) rfl⟩
theorem ml_X1_65 : MLv "ComplaintDesk$Letter" 65 M_Jx4a65c_size_8abf5 0 := ⟨⟨uw_at 263 (by decide +kernel) rfl, uw_at 239 (by decide +kernel) rfl, uw_at 55 (by decide +kernel) rfl, ⟨by decide +kernel, by decide +kernel⟩, by decide +kernel, by decide⟩, uw_at 237 (by decide +kernel) rfl, uw_at 238 (by decide +kernel) rfl⟩
theorem ml_X1_75 : MLv "ComplaintDesk$Letter" 75 M_Jx4a65c_get_915e3 1 := ⟨⟨uw_at 264 (by decide +kernel) rfl, uw_at 247 (by decide +kernel) rfl, uw_at 55 (by decide +kernel) rfl, ⟨by decide +kernel, by decide +kernel⟩, by decide +kernel, by decide⟩, uw_at 245 (by decide +kernel) rfl, uw_at 246 (by decide +kernel) rfl⟩
theorem ml_X1_81 : MLv "ComplaintDesk$Letter" 81 M_X3_isAnswered 0 := ⟨⟨uw_at 266 (by decide +kernel) rfl, uw_at 269 (by decide +kernel) rfl, uw_at 75 (by decide +kernel) rfl, ⟨by decide +kernel, by decide +kernel⟩, by decide +kernel, by decide⟩, uw_at 267 (by decide +kernel) rfl, uw_at 268 (by decide +kernel) rfl⟩
abbrev M_X0_isUnder : gM := (yX0_isUnder, cX0_isUnder, 3, (some .boolean))
theorem ml_X1_93 : MLv "ComplaintDesk$Letter" 93 M_X0_isUnder 1 := ⟨⟨uw_at 1053 (by decide +kernel) rfl, uw_at 1056 (by decide +kernel) rfl, uw_at 69 (by decide +kernel) rfl, ⟨by decide +kernel, by decide +kernel⟩, by decide +kernel, by decide⟩, uw_at 1054 (by decide +kernel) rfl, uw_at 1055 (by decide +kernel) rfl⟩
abbrev M_J7_copyOf_c38d5 : gM := (yJ7_copyOf_c38d5, cJ7_copyOf_c38d5, 3, (some (.array .long)))
theorem ml_X2_19 : MLs "ComplaintDesk$Pattern" 19 M_J7_copyOf_c38d5 2 := ⟨⟨uw_at 438 (by decide +kernel) rfl, uw_at 440 (by decide +kernel) rfl, uw_at 65 (by decide +kernel) rfl, ⟨by decide +kernel, by decide +kernel⟩, by decide +kernel, by decide⟩, uw_at 439 (by decide +kernel) rfl⟩
abbrev M_J7_copyOf_59c91 : gM := (yJ7_copyOf_59c91, cJ7_copyOf_59c91, 3, (some (.array .int)))
theorem ml_X2_32 : MLs "ComplaintDesk$Pattern" 32 M_J7_copyOf_59c91 2 := ⟨⟨uw_at 454 (by decide +kernel) rfl, uw_at 456 (by decide +kernel) rfl, uw_at 65 (by decide +kernel) rfl, ⟨by decide +kernel, by decide +kernel⟩, by decide +kernel, by decide⟩, uw_at 455 (by decide +kernel) rfl⟩
theorem ml_X2_42 : MLv "ComplaintDesk$Pattern" 42 M_X5_clear 0 := ⟨⟨uw_at 393 (by decide +kernel) rfl, uw_at 396 (by decide +kernel) rfl, uw_at 52 (by decide +kernel) rfl, ⟨by decide +kernel, by decide +kernel⟩, by decide +kernel, by decide⟩, uw_at 394 (by decide +kernel) rfl, uw_at 395 (by decide +kernel) rfl⟩
theorem ml_X2_45 : MLv "ComplaintDesk$Pattern" 45 M_X5_beginPart 0 := ⟨⟨uw_at 397 (by decide +kernel) rfl, uw_at 400 (by decide +kernel) rfl, uw_at 52 (by decide +kernel) rfl, ⟨by decide +kernel, by decide +kernel⟩, by decide +kernel, by decide⟩, uw_at 398 (by decide +kernel) rfl, uw_at 399 (by decide +kernel) rfl⟩
theorem ml_X2_48 : MLv "ComplaintDesk$Pattern" 48 M_X4_next 0 := ⟨⟨uw_at 401 (by decide +kernel) rfl, uw_at 404 (by decide +kernel) rfl, uw_at 51 (by decide +kernel) rfl, ⟨by decide +kernel, by decide +kernel⟩, by decide +kernel, by decide⟩, uw_at 402 (by decide +kernel) rfl, uw_at 403 (by decide +kernel) rfl⟩
theorem ml_X2_54 : MLv "ComplaintDesk$Pattern" 54 M_X4_codeOfThing 0 := ⟨⟨uw_at 413 (by decide +kernel) rfl, uw_at 416 (by decide +kernel) rfl, uw_at 51 (by decide +kernel) rfl, ⟨by decide +kernel, by decide +kernel⟩, by decide +kernel, by decide⟩, uw_at 414 (by decide +kernel) rfl, uw_at 415 (by decide +kernel) rfl⟩
abbrev M_X2_isPlainWord : gM := (yX2_isPlainWord, cX2_isPlainWord, 2, (some .boolean))
theorem ml_X2_67 : MLs "ComplaintDesk$Pattern" 67 M_X2_isPlainWord 1 := ⟨⟨uw_at 424 (by decide +kernel) rfl, uw_at 426 (by decide +kernel) rfl, uw_at 64 (by decide +kernel) rfl, ⟨by decide +kernel, by decide +kernel⟩, by decide +kernel, by decide⟩, uw_at 425 (by decide +kernel) rfl⟩
theorem ml_X2_71 : MLv "ComplaintDesk$Pattern" 71 M_X5_add 2 := ⟨⟨uw_at 427 (by decide +kernel) rfl, uw_at 430 (by decide +kernel) rfl, uw_at 52 (by decide +kernel) rfl, ⟨by decide +kernel, by decide +kernel⟩, by decide +kernel, by decide⟩, uw_at 428 (by decide +kernel) rfl, uw_at 429 (by decide +kernel) rfl⟩
abbrev M_X3_hasWord : gM := (yX3_hasWord, cX3_hasWord, 4, (some .boolean))
theorem ml_X2_78 : MLv "ComplaintDesk$Pattern" 78 M_X3_hasWord 1 := ⟨⟨uw_at 595 (by decide +kernel) rfl, uw_at 598 (by decide +kernel) rfl, uw_at 75 (by decide +kernel) rfl, ⟨by decide +kernel, by decide +kernel⟩, by decide +kernel, by decide⟩, uw_at 596 (by decide +kernel) rfl, uw_at 597 (by decide +kernel) rfl⟩
abbrev M_X3_isThreat : gM := (yX3_isThreat, cX3_isThreat, 1, (some .boolean))
theorem ml_X3_34 : MLv "ComplaintDesk$Point" 34 M_X3_isThreat 0 := ⟨⟨uw_at 931 (by decide +kernel) rfl, uw_at 934 (by decide +kernel) rfl, uw_at 75 (by decide +kernel) rfl, ⟨by decide +kernel, by decide +kernel⟩, by decide +kernel, by decide⟩, uw_at 933 (by decide +kernel) rfl, uw_at 14 (by decide +kernel) rfl⟩
abbrev M_X4_byteAt : gM := (yX4_byteAt, cX4_byteAt, 2, (some .int))
theorem ml_X4_28 : MLv "ComplaintDesk$Tape" 28 M_X4_byteAt 1 := ⟨⟨uw_at 405 (by decide +kernel) rfl, uw_at 408 (by decide +kernel) rfl, uw_at 51 (by decide +kernel) rfl, ⟨by decide +kernel, by decide +kernel⟩, by decide +kernel, by decide⟩, uw_at 407 (by decide +kernel) rfl, uw_at 5 (by decide +kernel) rfl⟩
abbrev M_X4_isLetterAt : gM := (yX4_isLetterAt, cX4_isLetterAt, 3, (some .boolean))
theorem ml_X4_32 : MLv "ComplaintDesk$Tape" 32 M_X4_isLetterAt 1 := ⟨⟨uw_at 409 (by decide +kernel) rfl, uw_at 412 (by decide +kernel) rfl, uw_at 51 (by decide +kernel) rfl, ⟨by decide +kernel, by decide +kernel⟩, by decide +kernel, by decide⟩, uw_at 411 (by decide +kernel) rfl, uw_at 6 (by decide +kernel) rfl⟩
theorem ml_X4_36 : MLv "ComplaintDesk$Tape" 36 M_X4_isWord 0 := ⟨⟨uw_at 417 (by decide +kernel) rfl, uw_at 420 (by decide +kernel) rfl, uw_at 51 (by decide +kernel) rfl, ⟨by decide +kernel, by decide +kernel⟩, by decide +kernel, by decide⟩, uw_at 418 (by decide +kernel) rfl, uw_at 419 (by decide +kernel) rfl⟩
abbrev M_J7_copyOfRange_23910 : gM := (yJ7_copyOfRange_23910, cJ7_copyOfRange_23910, 3, (some (.array .long)))
theorem ml_X5_29 : MLs "ComplaintDesk$Words" 29 M_J7_copyOfRange_23910 3 := ⟨⟨uw_at 650 (by decide +kernel) rfl, uw_at 652 (by decide +kernel) rfl, uw_at 65 (by decide +kernel) rfl, ⟨by decide +kernel, by decide +kernel⟩, by decide +kernel, by decide⟩, uw_at 651 (by decide +kernel) rfl⟩
abbrev M_X6_cause : gM := (yX6_cause, cX6_cause, 7, (some .int))
theorem ml_L_7 : MLv "ComplaintDeskLaw" 7 M_X6_cause 4 := ⟨⟨uw_at 285 (by decide +kernel) rfl, uw_at 288 (by decide +kernel) rfl, uw_at 50 (by decide +kernel) rfl, ⟨by decide +kernel, by decide +kernel⟩, by decide +kernel, by decide⟩, uw_at 286 (by decide +kernel) rfl, uw_at 287 (by decide +kernel) rfl⟩
abbrev M_X6_pattern : gM := (yX6_pattern, cX6_pattern, 3, (some .int))
theorem ml_L_19 : MLv "ComplaintDeskLaw" 19 M_X6_pattern 1 := ⟨⟨uw_at 578 (by decide +kernel) rfl, uw_at 581 (by decide +kernel) rfl, uw_at 50 (by decide +kernel) rfl, ⟨by decide +kernel, by decide +kernel⟩, by decide +kernel, by decide⟩, uw_at 579 (by decide +kernel) rfl, uw_at 580 (by decide +kernel) rfl⟩
abbrev M_X6_letter : gM := (yX6_letter, cX6_letter, 5, (some .int))
theorem ml_L_23 : MLv "ComplaintDeskLaw" 23 M_X6_letter 1 := ⟨⟨uw_at 606 (by decide +kernel) rfl, uw_at 609 (by decide +kernel) rfl, uw_at 50 (by decide +kernel) rfl, ⟨by decide +kernel, by decide +kernel⟩, by decide +kernel, by decide⟩, uw_at 607 (by decide +kernel) rfl, uw_at 608 (by decide +kernel) rfl⟩
abbrev M_X6_hours : gM := (yX6_hours, cX6_hours, 3, none)
theorem ml_L_26 : MLv "ComplaintDeskLaw" 26 M_X6_hours 2 := ⟨⟨uw_at 903 (by decide +kernel) rfl, uw_at 906 (by decide +kernel) rfl, uw_at 50 (by decide +kernel) rfl, ⟨by decide +kernel, by decide +kernel⟩, by decide +kernel, by decide⟩, uw_at 904 (by decide +kernel) rfl, uw_at 905 (by decide +kernel) rfl⟩
abbrev M_X6_days : gM := (yX6_days, cX6_days, 4, (some .int))
theorem ml_L_30 : MLv "ComplaintDeskLaw" 30 M_X6_days 1 := ⟨⟨uw_at 911 (by decide +kernel) rfl, uw_at 914 (by decide +kernel) rfl, uw_at 50 (by decide +kernel) rfl, ⟨by decide +kernel, by decide +kernel⟩, by decide +kernel, by decide⟩, uw_at 912 (by decide +kernel) rfl, uw_at 913 (by decide +kernel) rfl⟩
abbrev M_X6_answer : gM := (yX6_answer, cX6_answer, 4, (some .boolean))
theorem ml_L_33 : MLv "ComplaintDeskLaw" 33 M_X6_answer 2 := ⟨⟨uw_at 938 (by decide +kernel) rfl, uw_at 941 (by decide +kernel) rfl, uw_at 50 (by decide +kernel) rfl, ⟨by decide +kernel, by decide +kernel⟩, by decide +kernel, by decide⟩, uw_at 939 (by decide +kernel) rfl, uw_at 940 (by decide +kernel) rfl⟩
abbrev M_X6_point : gM := (yX6_point, cX6_point, 6, (some .int))
theorem ml_L_37 : MLv "ComplaintDeskLaw" 37 M_X6_point 3 := ⟨⟨uw_at 958 (by decide +kernel) rfl, uw_at 961 (by decide +kernel) rfl, uw_at 50 (by decide +kernel) rfl, ⟨by decide +kernel, by decide +kernel⟩, by decide +kernel, by decide⟩, uw_at 959 (by decide +kernel) rfl, uw_at 960 (by decide +kernel) rfl⟩
abbrev M_X6_look : gM := (yX6_look, cX6_look, 4, (some .int))
theorem ml_L_43 : MLv "ComplaintDeskLaw" 43 M_X6_look 2 := ⟨⟨uw_at 985 (by decide +kernel) rfl, uw_at 988 (by decide +kernel) rfl, uw_at 50 (by decide +kernel) rfl, ⟨by decide +kernel, by decide +kernel⟩, by decide +kernel, by decide⟩, uw_at 986 (by decide +kernel) rfl, uw_at 987 (by decide +kernel) rfl⟩
abbrev M_X6_late : gM := (yX6_late, cX6_late, 5, (some .int))
theorem ml_L_47 : MLv "ComplaintDeskLaw" 47 M_X6_late 1 := ⟨⟨uw_at 1011 (by decide +kernel) rfl, uw_at 1014 (by decide +kernel) rfl, uw_at 50 (by decide +kernel) rfl, ⟨by decide +kernel, by decide +kernel⟩, by decide +kernel, by decide⟩, uw_at 1012 (by decide +kernel) rfl, uw_at 1013 (by decide +kernel) rfl⟩
abbrev M_X6_waits : gM := (yX6_waits, cX6_waits, 6, (some .int))
theorem ml_L_50 : MLv "ComplaintDeskLaw" 50 M_X6_waits 1 := ⟨⟨uw_at 1026 (by decide +kernel) rfl, uw_at 1029 (by decide +kernel) rfl, uw_at 50 (by decide +kernel) rfl, ⟨by decide +kernel, by decide +kernel⟩, by decide +kernel, by decide⟩, uw_at 1027 (by decide +kernel) rfl, uw_at 1028 (by decide +kernel) rfl⟩
abbrev M_X6_template : gM := (yX6_template, cX6_template, 3, (some .int))
theorem ml_L_53 : MLv "ComplaintDeskLaw" 53 M_X6_template 1 := ⟨⟨uw_at 1033 (by decide +kernel) rfl, uw_at 1036 (by decide +kernel) rfl, uw_at 50 (by decide +kernel) rfl, ⟨by decide +kernel, by decide +kernel⟩, by decide +kernel, by decide⟩, uw_at 1034 (by decide +kernel) rfl, uw_at 1035 (by decide +kernel) rfl⟩
abbrev M_X6_counts : gM := (yX6_counts, cX6_counts, 4, (some .int))
theorem ml_L_56 : MLv "ComplaintDeskLaw" 56 M_X6_counts 2 := ⟨⟨uw_at 1041 (by decide +kernel) rfl, uw_at 1044 (by decide +kernel) rfl, uw_at 50 (by decide +kernel) rfl, ⟨by decide +kernel, by decide +kernel⟩, by decide +kernel, by decide⟩, uw_at 1042 (by decide +kernel) rfl, uw_at 1043 (by decide +kernel) rfl⟩
abbrev M_X6_wave : gM := (yX6_wave, cX6_wave, 3, (some .int))
theorem ml_L_59 : MLv "ComplaintDeskLaw" 59 M_X6_wave 1 := ⟨⟨uw_at 1060 (by decide +kernel) rfl, uw_at 1063 (by decide +kernel) rfl, uw_at 50 (by decide +kernel) rfl, ⟨by decide +kernel, by decide +kernel⟩, by decide +kernel, by decide⟩, uw_at 1061 (by decide +kernel) rfl, uw_at 1062 (by decide +kernel) rfl⟩
abbrev M_X6_init : gM := (yX6_init, cX6_init, 1, none)
theorem ml_L_62 : MLi "ComplaintDeskLaw" 62 M_X6_init 0 := ⟨⟨uw_at 83 (by decide +kernel) rfl, uw_at 85 (by decide +kernel) rfl, uw_at 50 (by decide +kernel) rfl, ⟨by decide +kernel, by decide +kernel⟩, by decide +kernel, by decide⟩, uw_at 84 (by decide +kernel) rfl, rfl⟩
abbrev M_X7_init : gM := (yX7_init, cX7_init, 1, none)
theorem ml_L_65 : MLi "ComplaintDeskLaw" 65 M_X7_init 0 := ⟨⟨uw_at 1070 (by decide +kernel) rfl, uw_at 1072 (by decide +kernel) rfl, uw_at 56 (by decide +kernel) rfl, ⟨by decide +kernel, by decide +kernel⟩, by decide +kernel, by decide⟩, uw_at 1071 (by decide +kernel) rfl, rfl⟩
abbrev M_X6_feed : gM := (yX6_feed, cX6_feed, 6, (some .int))
theorem ml_L_66 : MLv "ComplaintDeskLaw" 66 M_X6_feed 5 := ⟨⟨uw_at 208 (by decide +kernel) rfl, uw_at 211 (by decide +kernel) rfl, uw_at 50 (by decide +kernel) rfl, ⟨by decide +kernel, by decide +kernel⟩, by decide +kernel, by decide⟩, uw_at 209 (by decide +kernel) rfl, uw_at 210 (by decide +kernel) rfl⟩
abbrev M_X7_feed : gM := (yX7_feed, cX7_feed, 7, (some .int))
theorem ml_L_70 : MLv "ComplaintDeskLaw" 70 M_X7_feed 5 := ⟨⟨uw_at 1185 (by decide +kernel) rfl, uw_at 1188 (by decide +kernel) rfl, uw_at 56 (by decide +kernel) rfl, ⟨by decide +kernel, by decide +kernel⟩, by decide +kernel, by decide⟩, uw_at 1186 (by decide +kernel) rfl, uw_at 1187 (by decide +kernel) rfl⟩
abbrev M_X6_end : gM := (yX6_end, cX6_end, 2, (some .boolean))
theorem ml_L_71 : MLv "ComplaintDeskLaw" 71 M_X6_end 1 := ⟨⟨uw_at 220 (by decide +kernel) rfl, uw_at 223 (by decide +kernel) rfl, uw_at 50 (by decide +kernel) rfl, ⟨by decide +kernel, by decide +kernel⟩, by decide +kernel, by decide⟩, uw_at 221 (by decide +kernel) rfl, uw_at 222 (by decide +kernel) rfl⟩
abbrev M_X7_end : gM := (yX7_end, cX7_end, 2, (some .boolean))
theorem ml_L_75 : MLv "ComplaintDeskLaw" 75 M_X7_end 1 := ⟨⟨uw_at 1189 (by decide +kernel) rfl, uw_at 1192 (by decide +kernel) rfl, uw_at 56 (by decide +kernel) rfl, ⟨by decide +kernel, by decide +kernel⟩, by decide +kernel, by decide⟩, uw_at 1190 (by decide +kernel) rfl, uw_at 1191 (by decide +kernel) rfl⟩
abbrev M_X7_cause : gM := (yX7_cause, cX7_cause, 5, (some .int))
theorem ml_L_81 : MLv "ComplaintDeskLaw" 81 M_X7_cause 4 := ⟨⟨uw_at 1197 (by decide +kernel) rfl, uw_at 1200 (by decide +kernel) rfl, uw_at 56 (by decide +kernel) rfl, ⟨by decide +kernel, by decide +kernel⟩, by decide +kernel, by decide⟩, uw_at 1198 (by decide +kernel) rfl, uw_at 1199 (by decide +kernel) rfl⟩
abbrev M_X7_thrown : gM := (yX7_thrown, cX7_thrown, 1, (some .int))
theorem ml_L_82 : MLv "ComplaintDeskLaw" 82 M_X7_thrown 0 := ⟨⟨uw_at 1181 (by decide +kernel) rfl, uw_at 1184 (by decide +kernel) rfl, uw_at 56 (by decide +kernel) rfl, ⟨by decide +kernel, by decide +kernel⟩, by decide +kernel, by decide⟩, uw_at 1182 (by decide +kernel) rfl, uw_at 1183 (by decide +kernel) rfl⟩
abbrev M_X7_pattern : gM := (yX7_pattern, cX7_pattern, 6, (some .int))
theorem ml_L_89 : MLv "ComplaintDeskLaw" 89 M_X7_pattern 1 := ⟨⟨uw_at 1277 (by decide +kernel) rfl, uw_at 1280 (by decide +kernel) rfl, uw_at 56 (by decide +kernel) rfl, ⟨by decide +kernel, by decide +kernel⟩, by decide +kernel, by decide⟩, uw_at 1278 (by decide +kernel) rfl, uw_at 1279 (by decide +kernel) rfl⟩
abbrev M_X7_letter : gM := (yX7_letter, cX7_letter, 5, (some .int))
theorem ml_L_92 : MLv "ComplaintDeskLaw" 92 M_X7_letter 1 := ⟨⟨uw_at 1305 (by decide +kernel) rfl, uw_at 1308 (by decide +kernel) rfl, uw_at 56 (by decide +kernel) rfl, ⟨by decide +kernel, by decide +kernel⟩, by decide +kernel, by decide⟩, uw_at 1306 (by decide +kernel) rfl, uw_at 1307 (by decide +kernel) rfl⟩
abbrev M_X6_fault : gM := (yX6_fault, cX6_fault, 1, (some .int))
theorem ml_L_93 : MLv "ComplaintDeskLaw" 93 M_X6_fault 0 := ⟨⟨uw_at 228 (by decide +kernel) rfl, uw_at 231 (by decide +kernel) rfl, uw_at 50 (by decide +kernel) rfl, ⟨by decide +kernel, by decide +kernel⟩, by decide +kernel, by decide⟩, uw_at 229 (by decide +kernel) rfl, uw_at 230 (by decide +kernel) rfl⟩
abbrev M_X7_fault : gM := (yX7_fault, cX7_fault, 1, (some .int))
theorem ml_L_96 : MLv "ComplaintDeskLaw" 96 M_X7_fault 0 := ⟨⟨uw_at 1193 (by decide +kernel) rfl, uw_at 1196 (by decide +kernel) rfl, uw_at 56 (by decide +kernel) rfl, ⟨by decide +kernel, by decide +kernel⟩, by decide +kernel, by decide⟩, uw_at 1194 (by decide +kernel) rfl, uw_at 1195 (by decide +kernel) rfl⟩
abbrev M_X7_hours : gM := (yX7_hours, cX7_hours, 3, none)
theorem ml_L_100 : MLv "ComplaintDeskLaw" 100 M_X7_hours 2 := ⟨⟨uw_at 1313 (by decide +kernel) rfl, uw_at 1316 (by decide +kernel) rfl, uw_at 56 (by decide +kernel) rfl, ⟨by decide +kernel, by decide +kernel⟩, by decide +kernel, by decide⟩, uw_at 1314 (by decide +kernel) rfl, uw_at 1315 (by decide +kernel) rfl⟩
abbrev M_X7_days : gM := (yX7_days, cX7_days, 6, (some .int))
theorem ml_L_103 : MLv "ComplaintDeskLaw" 103 M_X7_days 1 := ⟨⟨uw_at 1317 (by decide +kernel) rfl, uw_at 1320 (by decide +kernel) rfl, uw_at 56 (by decide +kernel) rfl, ⟨by decide +kernel, by decide +kernel⟩, by decide +kernel, by decide⟩, uw_at 1318 (by decide +kernel) rfl, uw_at 1319 (by decide +kernel) rfl⟩
abbrev M_X7_answer : gM := (yX7_answer, cX7_answer, 3, (some .boolean))
theorem ml_L_107 : MLv "ComplaintDeskLaw" 107 M_X7_answer 2 := ⟨⟨uw_at 1333 (by decide +kernel) rfl, uw_at 1336 (by decide +kernel) rfl, uw_at 56 (by decide +kernel) rfl, ⟨by decide +kernel, by decide +kernel⟩, by decide +kernel, by decide⟩, uw_at 1334 (by decide +kernel) rfl, uw_at 1335 (by decide +kernel) rfl⟩
abbrev M_X7_point : gM := (yX7_point, cX7_point, 8, (some .int))
theorem ml_L_111 : MLv "ComplaintDeskLaw" 111 M_X7_point 3 := ⟨⟨uw_at 1353 (by decide +kernel) rfl, uw_at 1356 (by decide +kernel) rfl, uw_at 56 (by decide +kernel) rfl, ⟨by decide +kernel, by decide +kernel⟩, by decide +kernel, by decide⟩, uw_at 1354 (by decide +kernel) rfl, uw_at 1355 (by decide +kernel) rfl⟩
abbrev M_X7_look : gM := (yX7_look, cX7_look, 3, (some .int))
theorem ml_L_114 : MLv "ComplaintDeskLaw" 114 M_X7_look 2 := ⟨⟨uw_at 1357 (by decide +kernel) rfl, uw_at 1360 (by decide +kernel) rfl, uw_at 56 (by decide +kernel) rfl, ⟨by decide +kernel, by decide +kernel⟩, by decide +kernel, by decide⟩, uw_at 1358 (by decide +kernel) rfl, uw_at 1359 (by decide +kernel) rfl⟩
abbrev M_X7_late : gM := (yX7_late, cX7_late, 6, (some .int))
theorem ml_L_117 : MLv "ComplaintDeskLaw" 117 M_X7_late 1 := ⟨⟨uw_at 1349 (by decide +kernel) rfl, uw_at 1352 (by decide +kernel) rfl, uw_at 56 (by decide +kernel) rfl, ⟨by decide +kernel, by decide +kernel⟩, by decide +kernel, by decide⟩, uw_at 1350 (by decide +kernel) rfl, uw_at 1351 (by decide +kernel) rfl⟩
abbrev M_X7_waits : gM := (yX7_waits, cX7_waits, 4, (some .int))
theorem ml_L_120 : MLv "ComplaintDeskLaw" 120 M_X7_waits 1 := ⟨⟨uw_at 1345 (by decide +kernel) rfl, uw_at 1348 (by decide +kernel) rfl, uw_at 56 (by decide +kernel) rfl, ⟨by decide +kernel, by decide +kernel⟩, by decide +kernel, by decide⟩, uw_at 1346 (by decide +kernel) rfl, uw_at 1347 (by decide +kernel) rfl⟩
abbrev M_X7_template : gM := (yX7_template, cX7_template, 2, (some .int))
theorem ml_L_123 : MLv "ComplaintDeskLaw" 123 M_X7_template 1 := ⟨⟨uw_at 1370 (by decide +kernel) rfl, uw_at 1373 (by decide +kernel) rfl, uw_at 56 (by decide +kernel) rfl, ⟨by decide +kernel, by decide +kernel⟩, by decide +kernel, by decide⟩, uw_at 1371 (by decide +kernel) rfl, uw_at 1372 (by decide +kernel) rfl⟩
abbrev M_X7_counts : gM := (yX7_counts, cX7_counts, 3, (some .int))
theorem ml_L_126 : MLv "ComplaintDeskLaw" 126 M_X7_counts 2 := ⟨⟨uw_at 1374 (by decide +kernel) rfl, uw_at 1377 (by decide +kernel) rfl, uw_at 56 (by decide +kernel) rfl, ⟨by decide +kernel, by decide +kernel⟩, by decide +kernel, by decide⟩, uw_at 1375 (by decide +kernel) rfl, uw_at 1376 (by decide +kernel) rfl⟩
abbrev M_X7_wave : gM := (yX7_wave, cX7_wave, 5, (some .int))
theorem ml_L_129 : MLv "ComplaintDeskLaw" 129 M_X7_wave 1 := ⟨⟨uw_at 1386 (by decide +kernel) rfl, uw_at 1389 (by decide +kernel) rfl, uw_at 56 (by decide +kernel) rfl, ⟨by decide +kernel, by decide +kernel⟩, by decide +kernel, by decide⟩, uw_at 1387 (by decide +kernel) rfl, uw_at 1388 (by decide +kernel) rfl⟩
abbrev M_X6_count : gM := (yX6_count, cX6_count, 2, (some .int))
theorem ml_L_130 : MLv "ComplaintDeskLaw" 130 M_X6_count 1 := ⟨⟨uw_at 232 (by decide +kernel) rfl, uw_at 235 (by decide +kernel) rfl, uw_at 50 (by decide +kernel) rfl, ⟨by decide +kernel, by decide +kernel⟩, by decide +kernel, by decide⟩, uw_at 233 (by decide +kernel) rfl, uw_at 234 (by decide +kernel) rfl⟩
abbrev M_X7_count : gM := (yX7_count, cX7_count, 7, (some .int))
theorem ml_L_133 : MLv "ComplaintDeskLaw" 133 M_X7_count 1 := ⟨⟨uw_at 1390 (by decide +kernel) rfl, uw_at 1393 (by decide +kernel) rfl, uw_at 56 (by decide +kernel) rfl, ⟨by decide +kernel, by decide +kernel⟩, by decide +kernel, by decide⟩, uw_at 1391 (by decide +kernel) rfl, uw_at 1392 (by decide +kernel) rfl⟩
abbrev M_X7_in : gM := (yX7_in, cX7_in, 3, (some .boolean))
theorem ml_X7_97 : MLs "ComplaintDeskModel" 97 M_X7_in 3 := ⟨⟨uw_at 1209 (by decide +kernel) rfl, uw_at 1211 (by decide +kernel) rfl, uw_at 56 (by decide +kernel) rfl, ⟨by decide +kernel, by decide +kernel⟩, by decide +kernel, by decide⟩, uw_at 1210 (by decide +kernel) rfl⟩
abbrev M_X7_noLetter : gM := (yX7_noLetter, cX7_noLetter, 2, (some .boolean))
theorem ml_X7_104 : MLv "ComplaintDeskModel" 104 M_X7_noLetter 1 := ⟨⟨uw_at 1341 (by decide +kernel) rfl, uw_at 1344 (by decide +kernel) rfl, uw_at 56 (by decide +kernel) rfl, ⟨by decide +kernel, by decide +kernel⟩, by decide +kernel, by decide⟩, uw_at 1343 (by decide +kernel) rfl, uw_at 44 (by decide +kernel) rfl⟩
abbrev M_X7_isAt : gM := (yX7_isAt, cX7_isAt, 3, (some .boolean))
theorem ml_X7_117 : MLv "ComplaintDeskModel" 117 M_X7_isAt 2 := ⟨⟨uw_at 1235 (by decide +kernel) rfl, uw_at 1238 (by decide +kernel) rfl, uw_at 56 (by decide +kernel) rfl, ⟨by decide +kernel, by decide +kernel⟩, by decide +kernel, by decide⟩, uw_at 1237 (by decide +kernel) rfl, uw_at 29 (by decide +kernel) rfl⟩
abbrev M_X7_blanks : gM := (yX7_blanks, cX7_blanks, 1, none)
theorem ml_X7_124 : MLv "ComplaintDeskModel" 124 M_X7_blanks 0 := ⟨⟨uw_at 1231 (by decide +kernel) rfl, uw_at 1234 (by decide +kernel) rfl, uw_at 56 (by decide +kernel) rfl, ⟨by decide +kernel, by decide +kernel⟩, by decide +kernel, by decide⟩, uw_at 1233 (by decide +kernel) rfl, uw_at 28 (by decide +kernel) rfl⟩
abbrev M_J0_length_8abf5 : gM := (yJ0_length_8abf5, cJ0_length_8abf5, 1, (some .int))
theorem ml_X7_127 : MLv "ComplaintDeskModel" 127 M_J0_length_8abf5 0 := ⟨⟨uw_at 1244 (by decide +kernel) rfl, uw_at 780 (by decide +kernel) rfl, uw_at 71 (by decide +kernel) rfl, ⟨by decide +kernel, by decide +kernel⟩, by decide +kernel, by decide⟩, uw_at 778 (by decide +kernel) rfl, uw_at 779 (by decide +kernel) rfl⟩
abbrev M_J0_charAt_5068e : gM := (yJ0_charAt_5068e, cJ0_charAt_5068e, 2, (some .char))
theorem ml_X7_133 : MLv "ComplaintDeskModel" 133 M_J0_charAt_5068e 1 := ⟨⟨uw_at 1245 (by decide +kernel) rfl, uw_at 1248 (by decide +kernel) rfl, uw_at 71 (by decide +kernel) rfl, ⟨by decide +kernel, by decide +kernel⟩, by decide +kernel, by decide⟩, uw_at 1246 (by decide +kernel) rfl, uw_at 1247 (by decide +kernel) rfl⟩
abbrev M_X7_isWord : gM := (yX7_isWord, cX7_isWord, 4, (some .boolean))
theorem ml_X7_139 : MLv "ComplaintDeskModel" 139 M_X7_isWord 1 := ⟨⟨uw_at 1240 (by decide +kernel) rfl, uw_at 1243 (by decide +kernel) rfl, uw_at 56 (by decide +kernel) rfl, ⟨by decide +kernel, by decide +kernel⟩, by decide +kernel, by decide⟩, uw_at 1242 (by decide +kernel) rfl, uw_at 30 (by decide +kernel) rfl⟩
abbrev M_X7_word : gM := (yX7_word, cX7_word, 1, none)
theorem ml_X7_147 : MLv "ComplaintDeskModel" 147 M_X7_word 0 := ⟨⟨uw_at 1227 (by decide +kernel) rfl, uw_at 1230 (by decide +kernel) rfl, uw_at 56 (by decide +kernel) rfl, ⟨by decide +kernel, by decide +kernel⟩, by decide +kernel, by decide⟩, uw_at 1229 (by decide +kernel) rfl, uw_at 27 (by decide +kernel) rfl⟩
abbrev M_X7_isSign : gM := (yX7_isSign, cX7_isSign, 1, (some .boolean))
theorem ml_X7_150 : MLv "ComplaintDeskModel" 150 M_X7_isSign 0 := ⟨⟨uw_at 1267 (by decide +kernel) rfl, uw_at 1270 (by decide +kernel) rfl, uw_at 56 (by decide +kernel) rfl, ⟨by decide +kernel, by decide +kernel⟩, by decide +kernel, by decide⟩, uw_at 1269 (by decide +kernel) rfl, uw_at 31 (by decide +kernel) rfl⟩
abbrev M_X7_readPattern : gM := (yX7_readPattern, cX7_readPattern, 6, (some .boolean))
theorem ml_X7_154 : MLv "ComplaintDeskModel" 154 M_X7_readPattern 0 := ⟨⟨uw_at 1223 (by decide +kernel) rfl, uw_at 1226 (by decide +kernel) rfl, uw_at 56 (by decide +kernel) rfl, ⟨by decide +kernel, by decide +kernel⟩, by decide +kernel, by decide⟩, uw_at 1225 (by decide +kernel) rfl, uw_at 26 (by decide +kernel) rfl⟩
abbrev M_X7_isSame : gM := (yX7_isSame, cX7_isSame, 6, (some .boolean))
theorem ml_X7_157 : MLv "ComplaintDeskModel" 157 M_X7_isSame 3 := ⟨⟨uw_at 1297 (by decide +kernel) rfl, uw_at 1300 (by decide +kernel) rfl, uw_at 56 (by decide +kernel) rfl, ⟨by decide +kernel, by decide +kernel⟩, by decide +kernel, by decide⟩, uw_at 1299 (by decide +kernel) rfl, uw_at 37 (by decide +kernel) rfl⟩
abbrev M_X7_hasWord : gM := (yX7_hasWord, cX7_hasWord, 6, (some .boolean))
theorem ml_X7_160 : MLv "ComplaintDeskModel" 160 M_X7_hasWord 3 := ⟨⟨uw_at 1293 (by decide +kernel) rfl, uw_at 1296 (by decide +kernel) rfl, uw_at 56 (by decide +kernel) rfl, ⟨by decide +kernel, by decide +kernel⟩, by decide +kernel, by decide⟩, uw_at 1295 (by decide +kernel) rfl, uw_at 36 (by decide +kernel) rfl⟩
abbrev M_X7_fits : gM := (yX7_fits, cX7_fits, 6, (some .boolean))
theorem ml_X7_163 : MLv "ComplaintDeskModel" 163 M_X7_fits 3 := ⟨⟨uw_at 1289 (by decide +kernel) rfl, uw_at 1292 (by decide +kernel) rfl, uw_at 56 (by decide +kernel) rfl, ⟨by decide +kernel, by decide +kernel⟩, by decide +kernel, by decide⟩, uw_at 1291 (by decide +kernel) rfl, uw_at 35 (by decide +kernel) rfl⟩
abbrev M_X7_below : gM := (yX7_below, cX7_below, 5, (some .int))
theorem ml_X7_166 : MLv "ComplaintDeskModel" 166 M_X7_below 3 := ⟨⟨uw_at 1285 (by decide +kernel) rfl, uw_at 1288 (by decide +kernel) rfl, uw_at 56 (by decide +kernel) rfl, ⟨by decide +kernel, by decide +kernel⟩, by decide +kernel, by decide⟩, uw_at 1287 (by decide +kernel) rfl, uw_at 34 (by decide +kernel) rfl⟩
abbrev M_X7_uses : gM := (yX7_uses, cX7_uses, 1, none)
theorem ml_X7_170 : MLv "ComplaintDeskModel" 170 M_X7_uses 0 := ⟨⟨uw_at 1201 (by decide +kernel) rfl, uw_at 1204 (by decide +kernel) rfl, uw_at 56 (by decide +kernel) rfl, ⟨by decide +kernel, by decide +kernel⟩, by decide +kernel, by decide⟩, uw_at 1203 (by decide +kernel) rfl, uw_at 22 (by decide +kernel) rfl⟩
abbrev M_X7_noCause : gM := (yX7_noCause, cX7_noCause, 2, (some .boolean))
theorem ml_X7_173 : MLv "ComplaintDeskModel" 173 M_X7_noCause 1 := ⟨⟨uw_at 1205 (by decide +kernel) rfl, uw_at 1208 (by decide +kernel) rfl, uw_at 56 (by decide +kernel) rfl, ⟨by decide +kernel, by decide +kernel⟩, by decide +kernel, by decide⟩, uw_at 1207 (by decide +kernel) rfl, uw_at 23 (by decide +kernel) rfl⟩
abbrev M_X7_noDesk : gM := (yX7_noDesk, cX7_noDesk, 1, (some .boolean))
theorem ml_X7_176 : MLs "ComplaintDeskModel" 176 M_X7_noDesk 1 := ⟨⟨uw_at 1212 (by decide +kernel) rfl, uw_at 1214 (by decide +kernel) rfl, uw_at 56 (by decide +kernel) rfl, ⟨by decide +kernel, by decide +kernel⟩, by decide +kernel, by decide⟩, uw_at 1213 (by decide +kernel) rfl⟩
abbrev M_X7_throwsIf : gM := (yX7_throwsIf, cX7_throwsIf, 3, (some .boolean))
theorem ml_X7_179 : MLv "ComplaintDeskModel" 179 M_X7_throwsIf 2 := ⟨⟨uw_at 1215 (by decide +kernel) rfl, uw_at 1218 (by decide +kernel) rfl, uw_at 56 (by decide +kernel) rfl, ⟨by decide +kernel, by decide +kernel⟩, by decide +kernel, by decide⟩, uw_at 1217 (by decide +kernel) rfl, uw_at 24 (by decide +kernel) rfl⟩
abbrev M_X7_readsPattern : gM := (yX7_readsPattern, cX7_readsPattern, 2, (some .boolean))
theorem ml_X7_183 : MLv "ComplaintDeskModel" 183 M_X7_readsPattern 0 := ⟨⟨uw_at 1219 (by decide +kernel) rfl, uw_at 1222 (by decide +kernel) rfl, uw_at 56 (by decide +kernel) rfl, ⟨by decide +kernel, by decide +kernel⟩, by decide +kernel, by decide⟩, uw_at 1221 (by decide +kernel) rfl, uw_at 25 (by decide +kernel) rfl⟩
abbrev M_X7_setsPattern : gM := (yX7_setsPattern, cX7_setsPattern, 4, none)
theorem ml_X7_186 : MLv "ComplaintDeskModel" 186 M_X7_setsPattern 1 := ⟨⟨uw_at 1273 (by decide +kernel) rfl, uw_at 1276 (by decide +kernel) rfl, uw_at 56 (by decide +kernel) rfl, ⟨by decide +kernel, by decide +kernel⟩, by decide +kernel, by decide⟩, uw_at 1275 (by decide +kernel) rfl, uw_at 32 (by decide +kernel) rfl⟩
abbrev M_X7_sorted : gM := (yX7_sorted, cX7_sorted, 5, (some .int))
theorem ml_X7_190 : MLv "ComplaintDeskModel" 190 M_X7_sorted 2 := ⟨⟨uw_at 1281 (by decide +kernel) rfl, uw_at 1284 (by decide +kernel) rfl, uw_at 56 (by decide +kernel) rfl, ⟨by decide +kernel, by decide +kernel⟩, by decide +kernel, by decide⟩, uw_at 1283 (by decide +kernel) rfl, uw_at 33 (by decide +kernel) rfl⟩
abbrev M_X7_puts : gM := (yX7_puts, cX7_puts, 4, none)
theorem ml_X7_194 : MLv "ComplaintDeskModel" 194 M_X7_puts 3 := ⟨⟨uw_at 1301 (by decide +kernel) rfl, uw_at 1304 (by decide +kernel) rfl, uw_at 56 (by decide +kernel) rfl, ⟨by decide +kernel, by decide +kernel⟩, by decide +kernel, by decide⟩, uw_at 1303 (by decide +kernel) rfl, uw_at 38 (by decide +kernel) rfl⟩
abbrev M_X7_readLetter : gM := (yX7_readLetter, cX7_readLetter, 4, (some .boolean))
theorem ml_X7_198 : MLv "ComplaintDeskModel" 198 M_X7_readLetter 0 := ⟨⟨uw_at 1309 (by decide +kernel) rfl, uw_at 1312 (by decide +kernel) rfl, uw_at 56 (by decide +kernel) rfl, ⟨by decide +kernel, by decide +kernel⟩, by decide +kernel, by decide⟩, uw_at 1311 (by decide +kernel) rfl, uw_at 39 (by decide +kernel) rfl⟩
abbrev M_X7_isOf : gM := (yX7_isOf, cX7_isOf, 3, (some .boolean))
theorem ml_X7_204 : MLv "ComplaintDeskModel" 204 M_X7_isOf 2 := ⟨⟨uw_at 1325 (by decide +kernel) rfl, uw_at 1328 (by decide +kernel) rfl, uw_at 56 (by decide +kernel) rfl, ⟨by decide +kernel, by decide +kernel⟩, by decide +kernel, by decide⟩, uw_at 1327 (by decide +kernel) rfl, uw_at 41 (by decide +kernel) rfl⟩
abbrev M_X7_isAhead : gM := (yX7_isAhead, cX7_isAhead, 5, (some .boolean))
theorem ml_X7_207 : MLv "ComplaintDeskModel" 207 M_X7_isAhead 2 := ⟨⟨uw_at 1329 (by decide +kernel) rfl, uw_at 1332 (by decide +kernel) rfl, uw_at 56 (by decide +kernel) rfl, ⟨by decide +kernel, by decide +kernel⟩, by decide +kernel, by decide⟩, uw_at 1331 (by decide +kernel) rfl, uw_at 42 (by decide +kernel) rfl⟩
abbrev M_X7_next : gM := (yX7_next, cX7_next, 4, (some .int))
theorem ml_X7_210 : MLv "ComplaintDeskModel" 210 M_X7_next 1 := ⟨⟨uw_at 1321 (by decide +kernel) rfl, uw_at 1324 (by decide +kernel) rfl, uw_at 56 (by decide +kernel) rfl, ⟨by decide +kernel, by decide +kernel⟩, by decide +kernel, by decide⟩, uw_at 1323 (by decide +kernel) rfl, uw_at 40 (by decide +kernel) rfl⟩
abbrev M_X7_noPoint : gM := (yX7_noPoint, cX7_noPoint, 3, (some .boolean))
theorem ml_X7_214 : MLv "ComplaintDeskModel" 214 M_X7_noPoint 2 := ⟨⟨uw_at 1337 (by decide +kernel) rfl, uw_at 1340 (by decide +kernel) rfl, uw_at 56 (by decide +kernel) rfl, ⟨by decide +kernel, by decide +kernel⟩, by decide +kernel, by decide⟩, uw_at 1339 (by decide +kernel) rfl, uw_at 43 (by decide +kernel) rfl⟩
theorem ml_X7_220 : MLs "ComplaintDeskModel" 220 M_J6_bitCount_0f7a4 1 := ⟨⟨uw_at 1369 (by decide +kernel) rfl, uw_at 999 (by decide +kernel) rfl, uw_at 79 (by decide +kernel) rfl, ⟨by decide +kernel, by decide +kernel⟩, by decide +kernel, by decide⟩, uw_at 998 (by decide +kernel) rfl⟩
abbrev M_X7_isClosed : gM := (yX7_isClosed, cX7_isClosed, 4, (some .boolean))
theorem ml_X7_225 : MLv "ComplaintDeskModel" 225 M_X7_isClosed 1 := ⟨⟨uw_at 1361 (by decide +kernel) rfl, uw_at 1364 (by decide +kernel) rfl, uw_at 56 (by decide +kernel) rfl, ⟨by decide +kernel, by decide +kernel⟩, by decide +kernel, by decide⟩, uw_at 1363 (by decide +kernel) rfl, uw_at 45 (by decide +kernel) rfl⟩
abbrev M_X7_theAnswer : gM := (yX7_theAnswer, cX7_theAnswer, 7, (some .int))
theorem ml_X7_228 : MLv "ComplaintDeskModel" 228 M_X7_theAnswer 1 := ⟨⟨uw_at 1365 (by decide +kernel) rfl, uw_at 1368 (by decide +kernel) rfl, uw_at 56 (by decide +kernel) rfl, ⟨by decide +kernel, by decide +kernel⟩, by decide +kernel, by decide⟩, uw_at 1367 (by decide +kernel) rfl, uw_at 46 (by decide +kernel) rfl⟩
abbrev M_X7_isUnder : gM := (yX7_isUnder, cX7_isUnder, 4, (some .boolean))
theorem ml_X7_231 : MLv "ComplaintDeskModel" 231 M_X7_isUnder 2 := ⟨⟨uw_at 1382 (by decide +kernel) rfl, uw_at 1385 (by decide +kernel) rfl, uw_at 56 (by decide +kernel) rfl, ⟨by decide +kernel, by decide +kernel⟩, by decide +kernel, by decide⟩, uw_at 1384 (by decide +kernel) rfl, uw_at 48 (by decide +kernel) rfl⟩
abbrev M_X7_counted : gM := (yX7_counted, cX7_counted, 4, none)
theorem ml_X7_234 : MLv "ComplaintDeskModel" 234 M_X7_counted 1 := ⟨⟨uw_at 1378 (by decide +kernel) rfl, uw_at 1381 (by decide +kernel) rfl, uw_at 56 (by decide +kernel) rfl, ⟨by decide +kernel, by decide +kernel⟩, by decide +kernel, by decide⟩, uw_at 1380 (by decide +kernel) rfl, uw_at 47 (by decide +kernel) rfl⟩
abbrev M_J7_copyOfRange_39247 : gM := (yJ7_copyOfRange_39247, cJ7_copyOfRange_39247, 3, (some (.array .byte)))
theorem ml_STR_54 : MLs "java/lang/String" 54 M_J7_copyOfRange_39247 3 := ⟨⟨uw_at 847 (by decide +kernel) rfl, uw_at 849 (by decide +kernel) rfl, uw_at 65 (by decide +kernel) rfl, ⟨by decide +kernel, by decide +kernel⟩, by decide +kernel, by decide⟩, uw_at 848 (by decide +kernel) rfl⟩
abbrev M_J1_inflate_0e8fd : gM := (yJ1_inflate_0e8fd, cJ1_inflate_0e8fd, 5, none)
theorem ml_STR_106 : MLs "java/lang/String" 106 M_J1_inflate_0e8fd 5 := ⟨⟨uw_at 819 (by decide +kernel) rfl, uw_at 801 (by decide +kernel) rfl, uw_at 72 (by decide +kernel) rfl, ⟨by decide +kernel, by decide +kernel⟩, by decide +kernel, by decide⟩, uw_at 800 (by decide +kernel) rfl⟩
abbrev M_J0_coder_7d493 : gM := (yJ0_coder_7d493, cJ0_coder_7d493, 1, (some .byte))
theorem ml_STR_335 : MLv "java/lang/String" 335 M_J0_coder_7d493 0 := ⟨⟨uw_at 781 (by decide +kernel) rfl, uw_at 784 (by decide +kernel) rfl, uw_at 71 (by decide +kernel) rfl, ⟨by decide +kernel, by decide +kernel⟩, by decide +kernel, by decide⟩, uw_at 782 (by decide +kernel) rfl, uw_at 783 (by decide +kernel) rfl⟩
abbrev M_J0_init_db425 : gM := (yJ0_init_db425, cJ0_init_db425, 5, none)
theorem ml_STR_489 : MLi "java/lang/String" 489 M_J0_init_db425 2 := ⟨⟨uw_at 829 (by decide +kernel) rfl, uw_at 831 (by decide +kernel) rfl, uw_at 71 (by decide +kernel) rfl, ⟨by decide +kernel, by decide +kernel⟩, by decide +kernel, by decide⟩, uw_at 830 (by decide +kernel) rfl, rfl⟩
abbrev M_J0_isLatin1_aae02 : gM := (yJ0_isLatin1_aae02, cJ0_isLatin1_aae02, 1, (some .boolean))
theorem ml_STR_492 : MLv "java/lang/String" 492 M_J0_isLatin1_aae02 0 := ⟨⟨uw_at 1249 (by decide +kernel) rfl, uw_at 1252 (by decide +kernel) rfl, uw_at 71 (by decide +kernel) rfl, ⟨by decide +kernel, by decide +kernel⟩, by decide +kernel, by decide⟩, uw_at 1250 (by decide +kernel) rfl, uw_at 1251 (by decide +kernel) rfl⟩
abbrev M_J1_charAt_3b067 : gM := (yJ1_charAt_3b067, cJ1_charAt_3b067, 2, (some .char))
theorem ml_STR_495 : MLs "java/lang/String" 495 M_J1_charAt_3b067 2 := ⟨⟨uw_at 1253 (by decide +kernel) rfl, uw_at 1255 (by decide +kernel) rfl, uw_at 72 (by decide +kernel) rfl, ⟨by decide +kernel, by decide +kernel⟩, by decide +kernel, by decide⟩, uw_at 1254 (by decide +kernel) rfl⟩
abbrev M_J3_checkIndex_8e157 : gM := (yJ3_checkIndex_8e157, cJ3_checkIndex_8e157, 3, (some .int))
theorem ml_STR_1059 : MLs "java/lang/String" 1059 M_J3_checkIndex_8e157 3 := ⟨⟨uw_at 1259 (by decide +kernel) rfl, uw_at 253 (by decide +kernel) rfl, uw_at 62 (by decide +kernel) rfl, ⟨by decide +kernel, by decide +kernel⟩, by decide +kernel, by decide⟩, uw_at 252 (by decide +kernel) rfl⟩
abbrev M_J3_checkFromToIndex_8c36e : gM := (yJ3_checkFromToIndex_8c36e, cJ3_checkFromToIndex_8c36e, 4, (some .int))
theorem ml_STR_1062 : MLs "java/lang/String" 1062 M_J3_checkFromToIndex_8c36e 4 := ⟨⟨uw_at 745 (by decide +kernel) rfl, uw_at 747 (by decide +kernel) rfl, uw_at 62 (by decide +kernel) rfl, ⟨by decide +kernel, by decide +kernel⟩, by decide +kernel, by decide⟩, uw_at 746 (by decide +kernel) rfl⟩
abbrev M_J3_checkFromIndexSize_8c36e : gM := (yJ3_checkFromIndexSize_8c36e, cJ3_checkFromIndexSize_8c36e, 4, (some .int))
theorem ml_STR_1065 : MLs "java/lang/String" 1065 M_J3_checkFromIndexSize_8c36e 4 := ⟨⟨uw_at 811 (by decide +kernel) rfl, uw_at 813 (by decide +kernel) rfl, uw_at 62 (by decide +kernel) rfl, ⟨by decide +kernel, by decide +kernel⟩, by decide +kernel, by decide⟩, uw_at 812 (by decide +kernel) rfl⟩
abbrev M_J0_checkIndex_df160 : gM := (yJ0_checkIndex_df160, cJ0_checkIndex_df160, 2, none)
theorem ml_SL1_9 : MLs "java/lang/StringLatin1" 9 M_J0_checkIndex_df160 2 := ⟨⟨uw_at 1256 (by decide +kernel) rfl, uw_at 1258 (by decide +kernel) rfl, uw_at 71 (by decide +kernel) rfl, ⟨by decide +kernel, by decide +kernel⟩, by decide +kernel, by decide⟩, uw_at 1257 (by decide +kernel) rfl⟩
abbrev M_Jxa1e45_init_da8c8 : gM := (yJxa1e45_init_da8c8, cJxa1e45_init_da8c8, 1, none)
theorem ml_ABL_1 : MLi "java/util/AbstractList" 1 M_Jxa1e45_init_da8c8 0 := ⟨⟨uw_at 156 (by decide +kernel) rfl, uw_at 158 (by decide +kernel) rfl, uw_at 53 (by decide +kernel) rfl, ⟨by decide +kernel, by decide +kernel⟩, by decide +kernel, by decide⟩, uw_at 157 (by decide +kernel) rfl, rfl⟩
abbrev M_Jxc12de_init_da8c8 : gM := (yJxc12de_init_da8c8, cJxc12de_init_da8c8, 1, none)
theorem ml_AL_1 : MLi "java/util/ArrayList" 1 M_Jxc12de_init_da8c8 0 := ⟨⟨uw_at 153 (by decide +kernel) rfl, uw_at 155 (by decide +kernel) rfl, uw_at 54 (by decide +kernel) rfl, ⟨by decide +kernel, by decide +kernel⟩, by decide +kernel, by decide⟩, uw_at 154 (by decide +kernel) rfl, rfl⟩
abbrev M_J7_copyOf_1904c : gM := (yJ7_copyOf_1904c, cJ7_copyOf_1904c, 2, (some (.array (.object "java/lang/Object"))))
theorem ml_AL_66 : MLs "java/util/ArrayList" 66 M_J7_copyOf_1904c 2 := ⟨⟨uw_at 545 (by decide +kernel) rfl, uw_at 547 (by decide +kernel) rfl, uw_at 65 (by decide +kernel) rfl, ⟨by decide +kernel, by decide +kernel⟩, by decide +kernel, by decide⟩, uw_at 546 (by decide +kernel) rfl⟩
abbrev M_Jx4a65c_grow_92f84 : gM := (yJx4a65c_grow_92f84, cJx4a65c_grow_92f84, 4, (some (.array (.object "java/lang/Object"))))
theorem ml_AL_69 : MLv "java/util/ArrayList" 69 M_Jx4a65c_grow_92f84 1 := ⟨⟨uw_at 531 (by decide +kernel) rfl, uw_at 534 (by decide +kernel) rfl, uw_at 55 (by decide +kernel) rfl, ⟨by decide +kernel, by decide +kernel⟩, by decide +kernel, by decide⟩, uw_at 533 (by decide +kernel) rfl, uw_at 9 (by decide +kernel) rfl⟩
abbrev M_J8_newLength_cabcc : gM := (yJ8_newLength_cabcc, cJ8_newLength_cabcc, 4, (some .int))
theorem ml_AL_73 : MLs "java/util/ArrayList" 73 M_J8_newLength_cabcc 3 := ⟨⟨uw_at 535 (by decide +kernel) rfl, uw_at 537 (by decide +kernel) rfl, uw_at 70 (by decide +kernel) rfl, ⟨by decide +kernel, by decide +kernel⟩, by decide +kernel, by decide⟩, uw_at 536 (by decide +kernel) rfl⟩
abbrev M_J9_max_7cf53 : gM := (yJ9_max_7cf53, cJ9_max_7cf53, 2, (some .int))
theorem ml_AL_79 : MLs "java/util/ArrayList" 79 M_J9_max_7cf53 2 := ⟨⟨uw_at 573 (by decide +kernel) rfl, uw_at 540 (by decide +kernel) rfl, uw_at 66 (by decide +kernel) rfl, ⟨by decide +kernel, by decide +kernel⟩, by decide +kernel, by decide⟩, uw_at 539 (by decide +kernel) rfl⟩
abbrev M_J15_checkIndex_7cf53 : gM := (yJ15_checkIndex_7cf53, cJ15_checkIndex_7cf53, 2, (some .int))
theorem ml_AL_118 : MLs "java/util/ArrayList" 118 M_J15_checkIndex_7cf53 2 := ⟨⟨uw_at 248 (by decide +kernel) rfl, uw_at 250 (by decide +kernel) rfl, uw_at 61 (by decide +kernel) rfl, ⟨by decide +kernel, by decide +kernel⟩, by decide +kernel, by decide⟩, uw_at 249 (by decide +kernel) rfl⟩
abbrev M_Jx4a65c_elementData_915e3 : gM := (yJx4a65c_elementData_915e3, cJx4a65c_elementData_915e3, 2, (some (.object "java/lang/Object")))
theorem ml_AL_123 : MLv "java/util/ArrayList" 123 M_Jx4a65c_elementData_915e3 1 := ⟨⟨uw_at 254 (by decide +kernel) rfl, uw_at 257 (by decide +kernel) rfl, uw_at 55 (by decide +kernel) rfl, ⟨by decide +kernel, by decide +kernel⟩, by decide +kernel, by decide⟩, uw_at 255 (by decide +kernel) rfl, uw_at 256 (by decide +kernel) rfl⟩
abbrev M_Jx4a65c_grow_d5877 : gM := (yJx4a65c_grow_d5877, cJx4a65c_grow_d5877, 1, (some (.array (.object "java/lang/Object"))))
theorem ml_AL_129 : MLv "java/util/ArrayList" 129 M_Jx4a65c_grow_d5877 0 := ⟨⟨uw_at 527 (by decide +kernel) rfl, uw_at 530 (by decide +kernel) rfl, uw_at 55 (by decide +kernel) rfl, ⟨by decide +kernel, by decide +kernel⟩, by decide +kernel, by decide⟩, uw_at 529 (by decide +kernel) rfl, uw_at 8 (by decide +kernel) rfl⟩
abbrev M_Jx4a65c_add_72be8 : gM := (yJx4a65c_add_72be8, cJx4a65c_add_72be8, 4, none)
theorem ml_AL_131 : MLv "java/util/ArrayList" 131 M_Jx4a65c_add_72be8 3 := ⟨⟨uw_at 523 (by decide +kernel) rfl, uw_at 526 (by decide +kernel) rfl, uw_at 55 (by decide +kernel) rfl, ⟨by decide +kernel, by decide +kernel⟩, by decide +kernel, by decide⟩, uw_at 525 (by decide +kernel) rfl, uw_at 7 (by decide +kernel) rfl⟩
abbrev M_J7_copyOf_6403c : gM := (yJ7_copyOf_6403c, cJ7_copyOf_6403c, 4, (some (.array (.object "java/lang/Object"))))
theorem ml_AR_300 : MLs "java/util/Arrays" 300 M_J7_copyOf_6403c 3 := ⟨⟨uw_at 567 (by decide +kernel) rfl, uw_at 569 (by decide +kernel) rfl, uw_at 65 (by decide +kernel) rfl, ⟨by decide +kernel, by decide +kernel⟩, by decide +kernel, by decide⟩, uw_at 568 (by decide +kernel) rfl⟩
theorem ml_AR_304 : MLs "java/util/Arrays" 304 M_J9_min_7cf53 2 := ⟨⟨uw_at 448 (by decide +kernel) rfl, uw_at 450 (by decide +kernel) rfl, uw_at 66 (by decide +kernel) rfl, ⟨by decide +kernel, by decide +kernel⟩, by decide +kernel, by decide⟩, uw_at 449 (by decide +kernel) rfl⟩
abbrev M_J7_copyOfRangeByte_39247 : gM := (yJ7_copyOfRangeByte_39247, cJ7_copyOfRangeByte_39247, 5, (some (.array .byte)))
theorem ml_AR_339 : MLs "java/util/Arrays" 339 M_J7_copyOfRangeByte_39247 3 := ⟨⟨uw_at 850 (by decide +kernel) rfl, uw_at 852 (by decide +kernel) rfl, uw_at 65 (by decide +kernel) rfl, ⟨by decide +kernel, by decide +kernel⟩, by decide +kernel, by decide⟩, uw_at 851 (by decide +kernel) rfl⟩
abbrev M_J7_checkLength_df160 : gM := (yJ7_checkLength_df160, cJ7_checkLength_df160, 2, none)
theorem ml_AR_343 : MLs "java/util/Arrays" 343 M_J7_checkLength_df160 2 := ⟨⟨uw_at 656 (by decide +kernel) rfl, uw_at 658 (by decide +kernel) rfl, uw_at 65 (by decide +kernel) rfl, ⟨by decide +kernel, by decide +kernel⟩, by decide +kernel, by decide⟩, uw_at 657 (by decide +kernel) rfl⟩
abbrev M_J7_copyOfRangeLong_23910 : gM := (yJ7_copyOfRangeLong_23910, cJ7_copyOfRangeLong_23910, 5, (some (.array .long)))
theorem ml_AR_355 : MLs "java/util/Arrays" 355 M_J7_copyOfRangeLong_23910 3 := ⟨⟨uw_at 653 (by decide +kernel) rfl, uw_at 655 (by decide +kernel) rfl, uw_at 65 (by decide +kernel) rfl, ⟨by decide +kernel, by decide +kernel⟩, by decide +kernel, by decide⟩, uw_at 654 (by decide +kernel) rfl⟩
theorem ml_OBJ_105 : MLs "java/util/Objects" 105 M_J3_checkIndex_8e157 3 := ⟨⟨uw_at 251 (by decide +kernel) rfl, uw_at 253 (by decide +kernel) rfl, uw_at 62 (by decide +kernel) rfl, ⟨by decide +kernel, by decide +kernel⟩, by decide +kernel, by decide⟩, uw_at 252 (by decide +kernel) rfl⟩
theorem ml_AS_194 : MLs "jdk/internal/util/ArraysSupport" 194 M_J9_max_7cf53 2 := ⟨⟨uw_at 538 (by decide +kernel) rfl, uw_at 540 (by decide +kernel) rfl, uw_at 66 (by decide +kernel) rfl, ⟨by decide +kernel, by decide +kernel⟩, by decide +kernel, by decide⟩, uw_at 539 (by decide +kernel) rfl⟩
abbrev M_J8_hugeLength_7cf53 : gM := (yJ8_hugeLength_7cf53, cJ8_hugeLength_7cf53, 3, (some .int))
theorem ml_AS_201 : MLs "jdk/internal/util/ArraysSupport" 201 M_J8_hugeLength_7cf53 2 := ⟨⟨uw_at 542 (by decide +kernel) rfl, uw_at 544 (by decide +kernel) rfl, uw_at 70 (by decide +kernel) rfl, ⟨by decide +kernel, by decide +kernel⟩, by decide +kernel, by decide⟩, uw_at 543 (by decide +kernel) rfl⟩
theorem ki_m1 : Int32.ofInt (-1) = (-1 : Int32) := by decide +kernel
theorem ki_0 : Int32.ofInt (0) = (0 : Int32) := by decide +kernel
theorem ki_1 : Int32.ofInt (1) = (1 : Int32) := by decide +kernel
theorem ki_2 : Int32.ofInt (2) = (2 : Int32) := by decide +kernel
theorem ki_3 : Int32.ofInt (3) = (3 : Int32) := by decide +kernel
theorem ki_4 : Int32.ofInt (4) = (4 : Int32) := by decide +kernel
theorem ki_5 : Int32.ofInt (5) = (5 : Int32) := by decide +kernel
theorem kb_m100 : (Int8.ofInt (-100)).toInt32 = (-100 : Int32) := by decide +kernel
theorem kb_m10 : (Int8.ofInt (-10)).toInt32 = (-10 : Int32) := by decide +kernel
theorem kb_m9 : (Int8.ofInt (-9)).toInt32 = (-9 : Int32) := by decide +kernel
theorem kb_6 : (Int8.ofInt (6)).toInt32 = (6 : Int32) := by decide +kernel
theorem kb_8 : (Int8.ofInt (8)).toInt32 = (8 : Int32) := by decide +kernel
theorem kb_10 : (Int8.ofInt (10)).toInt32 = (10 : Int32) := by decide +kernel
theorem kb_11 : (Int8.ofInt (11)).toInt32 = (11 : Int32) := by decide +kernel
theorem kb_12 : (Int8.ofInt (12)).toInt32 = (12 : Int32) := by decide +kernel
theorem kb_13 : (Int8.ofInt (13)).toInt32 = (13 : Int32) := by decide +kernel
theorem kb_16 : (Int8.ofInt (16)).toInt32 = (16 : Int32) := by decide +kernel
theorem kb_20 : (Int8.ofInt (20)).toInt32 = (20 : Int32) := by decide +kernel
theorem kb_24 : (Int8.ofInt (24)).toInt32 = (24 : Int32) := by decide +kernel
theorem kb_31 : (Int8.ofInt (31)).toInt32 = (31 : Int32) := by decide +kernel
theorem kb_32 : (Int8.ofInt (32)).toInt32 = (32 : Int32) := by decide +kernel
theorem kb_45 : (Int8.ofInt (45)).toInt32 = (45 : Int32) := by decide +kernel
theorem kb_46 : (Int8.ofInt (46)).toInt32 = (46 : Int32) := by decide +kernel
theorem kb_49 : (Int8.ofInt (49)).toInt32 = (49 : Int32) := by decide +kernel
theorem kb_50 : (Int8.ofInt (50)).toInt32 = (50 : Int32) := by decide +kernel
theorem kb_60 : (Int8.ofInt (60)).toInt32 = (60 : Int32) := by decide +kernel
theorem kb_61 : (Int8.ofInt (61)).toInt32 = (61 : Int32) := by decide +kernel
theorem kb_63 : (Int8.ofInt (63)).toInt32 = (63 : Int32) := by decide +kernel
theorem kb_80 : (Int8.ofInt (80)).toInt32 = (80 : Int32) := by decide +kernel
theorem kb_81 : (Int8.ofInt (81)).toInt32 = (81 : Int32) := by decide +kernel
theorem kb_97 : (Int8.ofInt (97)).toInt32 = (97 : Int32) := by decide +kernel
theorem kb_100 : (Int8.ofInt (100)).toInt32 = (100 : Int32) := by decide +kernel
theorem kb_108 : (Int8.ofInt (108)).toInt32 = (108 : Int32) := by decide +kernel
theorem kb_110 : (Int8.ofInt (110)).toInt32 = (110 : Int32) := by decide +kernel
theorem kb_117 : (Int8.ofInt (117)).toInt32 = (117 : Int32) := by decide +kernel
theorem kb_122 : (Int8.ofInt (122)).toInt32 = (122 : Int32) := by decide +kernel
theorem ks_144 : (Int16.ofInt (144)).toInt32 = (144 : Int32) := by decide +kernel
theorem ks_156 : (Int16.ofInt (156)).toInt32 = (156 : Int32) := by decide +kernel
theorem ks_255 : (Int16.ofInt (255)).toInt32 = (255 : Int32) := by decide +kernel
theorem ks_380 : (Int16.ofInt (380)).toInt32 = (380 : Int32) := by decide +kernel
theorem ks_400 : (Int16.ofInt (400)).toInt32 = (400 : Int32) := by decide +kernel
theorem ks_401 : (Int16.ofInt (401)).toInt32 = (401 : Int32) := by decide +kernel
theorem ks_460 : (Int16.ofInt (460)).toInt32 = (460 : Int32) := by decide +kernel
theorem ks_480 : (Int16.ofInt (480)).toInt32 = (480 : Int32) := by decide +kernel
theorem ks_1872 : (Int16.ofInt (1872)).toInt32 = (1872 : Int32) := by decide +kernel
theorem ks_4800 : (Int16.ofInt (4800)).toInt32 = (4800 : Int32) := by decide +kernel
theorem ks_4860 : (Int16.ofInt (4860)).toInt32 = (4860 : Int32) := by decide +kernel
theorem ks_32400 : (Int16.ofInt (32400)).toInt32 = (32400 : Int32) := by decide +kernel
theorem ins_6 : Cond.instantiable "ComplaintDesk" 11 ∈ uw := uw_at 82 (by decide +kernel) rfl
theorem ins_4 : Cond.instantiable "ComplaintDesk$Tape" 5 ∈ uw := uw_at 90 (by decide +kernel) rfl
theorem ins_5 : Cond.instantiable "ComplaintDesk$Words" 5 ∈ uw := uw_at 118 (by decide +kernel) rfl
theorem ins_8 : Cond.instantiable "java/util/ArrayList" 3 ∈ uw := uw_at 149 (by decide +kernel) rfl
theorem ins_2 : Cond.instantiable "ComplaintDesk$Pattern" 3 ∈ uw := uw_at 433 (by decide +kernel) rfl
theorem ins_0 : Cond.instantiable "ComplaintDesk$Cause" 6 ∈ uw := uw_at 488 (by decide +kernel) rfl
theorem ins_1 : Cond.instantiable "ComplaintDesk$Letter" 3 ∈ uw := uw_at 625 (by decide +kernel) rfl
theorem ins_3 : Cond.instantiable "ComplaintDesk$Point" 4 ∈ uw := uw_at 645 (by decide +kernel) rfl
theorem ins_7 : Cond.instantiable "ComplaintDeskModel" 35 ∈ uw := uw_at 1069 (by decide +kernel) rfl
theorem ini_6 : Cond.initialized "ComplaintDesk" ∈ uw := uw_at 50 (by decide +kernel) rfl
theorem ini_4 : Cond.initialized "ComplaintDesk$Tape" ∈ uw := uw_at 51 (by decide +kernel) rfl
theorem ini_5 : Cond.initialized "ComplaintDesk$Words" ∈ uw := uw_at 52 (by decide +kernel) rfl
theorem ini_8 : Cond.initialized "java/util/ArrayList" ∈ uw := uw_at 55 (by decide +kernel) rfl
theorem ini_7 : Cond.initialized "ComplaintDeskModel" ∈ uw := uw_at 56 (by decide +kernel) rfl
theorem ini_2 : Cond.initialized "ComplaintDesk$Pattern" ∈ uw := uw_at 64 (by decide +kernel) rfl
theorem ini_0 : Cond.initialized "ComplaintDesk$Cause" ∈ uw := uw_at 69 (by decide +kernel) rfl
theorem ini_1 : Cond.initialized "ComplaintDesk$Letter" ∈ uw := uw_at 74 (by decide +kernel) rfl
theorem ini_3 : Cond.initialized "ComplaintDesk$Point" ∈ uw := uw_at 75 (by decide +kernel) rfl
theorem cl_X6_7 : Cond.classLink "ComplaintDesk" 7 "ComplaintDesk$Tape" ∈ uw := uw_at 89 (by decide +kernel) rfl
theorem cl_X6_16 : Cond.classLink "ComplaintDesk" 16 "ComplaintDesk$Words" ∈ uw := uw_at 117 (by decide +kernel) rfl
theorem cl_X6_30 : Cond.classLink "ComplaintDesk" 30 "java/util/ArrayList" ∈ uw := uw_at 148 (by decide +kernel) rfl
theorem cl_X6_81 : Cond.classLink "ComplaintDesk" 81 "java/lang/IllegalArgumentException" ∈ uw := uw_at 370 (by decide +kernel) rfl
theorem cl_X6_96 : Cond.classLink "ComplaintDesk" 96 "java/lang/UnsupportedOperationException" ∈ uw := uw_at 472 (by decide +kernel) rfl
theorem cl_X6_101 : Cond.classLink "ComplaintDesk" 101 "ComplaintDesk$Cause" ∈ uw := uw_at 365 (by decide +kernel) rfl
theorem cl_X6_120 : Cond.classLink "ComplaintDesk" 120 "ComplaintDesk$Letter" ∈ uw := uw_at 258 (by decide +kernel) rfl
theorem cl_X6_135 : Cond.classLink "ComplaintDesk" 135 "ComplaintDesk$Point" ∈ uw := uw_at 274 (by decide +kernel) rfl
theorem cl_X6_198 : Cond.classLink "ComplaintDesk" 198 "java/util/NoSuchElementException" ∈ uw := uw_at 966 (by decide +kernel) rfl
theorem cl_X6_246 : Cond.classLink "ComplaintDesk" 246 "java/lang/IndexOutOfBoundsException" ∈ uw := uw_at 297 (by decide +kernel) rfl
theorem cl_X6_256 : Cond.classLink "ComplaintDesk" 256 "ComplaintDesk$Pattern" ∈ uw := uw_at 432 (by decide +kernel) rfl
theorem cl_X1_9 : Cond.classLink "ComplaintDesk$Letter" 9 "java/util/ArrayList" ∈ uw := uw_at 630 (by decide +kernel) rfl
theorem cl_X1_68 : Cond.classLink "ComplaintDesk$Letter" 68 "java/lang/IndexOutOfBoundsException" ∈ uw := uw_at 951 (by decide +kernel) rfl
theorem cl_X1_79 : Cond.classLink "ComplaintDesk$Letter" 79 "ComplaintDesk$Point" ∈ uw := uw_at 265 (by decide +kernel) rfl
theorem cl_L_8 : Cond.classLink "ComplaintDeskLaw" 8 "ComplaintDesk" ∈ uw := uw_at 81 (by decide +kernel) rfl
theorem cl_L_13 : Cond.classLink "ComplaintDeskLaw" 13 "java/lang/IndexOutOfBoundsException" ∈ uw := uw_at 282 (by decide +kernel) rfl
theorem cl_L_15 : Cond.classLink "ComplaintDeskLaw" 15 "java/lang/IllegalArgumentException" ∈ uw := uw_at 283 (by decide +kernel) rfl
theorem cl_L_17 : Cond.classLink "ComplaintDeskLaw" 17 "java/lang/UnsupportedOperationException" ∈ uw := uw_at 284 (by decide +kernel) rfl
theorem cl_L_41 : Cond.classLink "ComplaintDeskLaw" 41 "java/util/NoSuchElementException" ∈ uw := uw_at 957 (by decide +kernel) rfl
theorem cl_L_63 : Cond.classLink "ComplaintDeskLaw" 63 "ComplaintDeskModel" ∈ uw := uw_at 1068 (by decide +kernel) rfl
theorem cl_AL_7 : Cond.classLink "java/util/ArrayList" 7 "java/lang/Object" ∈ uw := uw_at 574 (by decide +kernel) rfl
theorem cl_AR_2 : Cond.classLink "java/util/Arrays" 2 "java/lang/Object" ∈ uw := uw_at 572 (by decide +kernel) rfl
theorem cl_AR_43 : Cond.classLink "java/util/Arrays" 43 "java/lang/IllegalArgumentException" ∈ uw := uw_at 659 (by decide +kernel) rfl
theorem cl_AR_45 : Cond.classLink "java/util/Arrays" 45 "java/lang/StringBuilder" ∈ uw := uw_at 660 (by decide +kernel) rfl
theorem cl_AR_110 : Cond.classLink "java/util/Arrays" 110 "[Ljava/lang/Object;" ∈ uw := uw_at 570 (by decide +kernel) rfl
theorem cl_AR_311 : Cond.classLink "java/util/Arrays" 311 "[B" ∈ uw := uw_at 718 (by decide +kernel) rfl
theorem cl_AR_317 : Cond.classLink "java/util/Arrays" 317 "[I" ∈ uw := uw_at 461 (by decide +kernel) rfl
theorem cl_AR_320 : Cond.classLink "java/util/Arrays" 320 "[J" ∈ uw := uw_at 447 (by decide +kernel) rfl
theorem con_INT_265 : Cond.constant "java/lang/Integer" 265 (1431655765) ∈ uw := uw_at 1000 (by decide +kernel) rfl
theorem con_INT_266 : Cond.constant "java/lang/Integer" 266 (858993459) ∈ uw := uw_at 1001 (by decide +kernel) rfl
theorem con_INT_267 : Cond.constant "java/lang/Integer" 267 (252645135) ∈ uw := uw_at 1002 (by decide +kernel) rfl
theorem con_AS_200 : Cond.constant "jdk/internal/util/ArraysSupport" 200 (2147483639) ∈ uw := uw_at 541 (by decide +kernel) rfl
theorem con_X2_58 : Cond.constantLong "ComplaintDesk$Pattern" 58 (1476) ∈ uw := uw_at 421 (by decide +kernel) rfl
theorem con_X2_60 : Cond.constantLong "ComplaintDesk$Pattern" 60 (498) ∈ uw := uw_at 422 (by decide +kernel) rfl
theorem con_X2_65 : Cond.constantLong "ComplaintDesk$Pattern" 65 (14836) ∈ uw := uw_at 423 (by decide +kernel) rfl
theorem arc_byte : Cond.arrayClass .byte ∈ uw := uw_at 116 (by decide +kernel) rfl
theorem arc_long : Cond.arrayClass .long ∈ uw := uw_at 146 (by decide +kernel) rfl
theorem arc_int : Cond.arrayClass .int ∈ uw := uw_at 147 (by decide +kernel) rfl
theorem arc_boolean : Cond.arrayClass .boolean ∈ uw := uw_at 1180 (by decide +kernel) rfl
end
section
/-- the answer and the heap behind it, as equations -/
abbrev rX (v0 : Option Value) (h1 : hW) : Option Value → hW → Prop := fun v h' => v = v0 ∧ h' = h1
def b2 (p : Prop) [Decidable p] : Int32 := if p then 1 else 0
theorem b2_0 {p : Prop} [Decidable p] : b2 p = 0 ↔ ¬ p := by unfold b2; split <;> simp_all
theorem b2_1 {p : Prop} [Decidable p] : b2 p = 1 ↔ p := by unfold b2; split <;> simp_all
theorem b2_c {p : Prop} [Decidable p] : b2 p = 0 ∨ b2 p = 1 := by unfold b2; split <;> simp
theorem b2_t {p : Prop} [Decidable p] (h : p) : b2 p = 1 := if_pos h
theorem b2_f {p : Prop} [Decidable p] (h : ¬ p) : b2 p = 0 := if_neg h
theorem b2_n {p : Prop} [Decidable p] : narrow .boolean (.int (b2 p)) = .int (b2 p) := by unfold b2; split <;> rfl
theorem b2_iff {p q : Prop} [Decidable p] [Decidable q] (h : p ↔ q) : b2 p = b2 q := by unfold b2; simp [h]
/-- how many numbers below n have P -/
def cN (P : Nat → Prop) [DecidablePred P] : Nat → Nat
  | 0 => 0
  | n + 1 => cN P n + if P n then 1 else 0
termination_by n => n
theorem cN_0 {P : Nat → Prop} [DecidablePred P] : cN P 0 = 0 := by rw [cN]
theorem cN_s {P : Nat → Prop} [DecidablePred P] {n : Nat} : cN P (n + 1) = cN P n + if P n then 1 else 0 := by rw [cN]
theorem cN_le (P : Nat → Prop) [DecidablePred P] (n : Nat) : cN P n ≤ n := by
  induction n with
  | zero => rw [cN_0]; exact Nat.le_refl 0
  | succ n ih => rw [cN_s]; split <;> omega
theorem cN_t {P : Nat → Prop} [DecidablePred P] {n : Nat} (h : P n) : nI (cN P n) + 1 = nI (cN P (n + 1)) := by rw [cN_s, if_pos h]; exact nI_1 _
theorem cN_f {P : Nat → Prop} [DecidablePred P] {n : Nat} (h : ¬ P n) : nI (cN P n) + 0 = nI (cN P (n + 1)) := by rw [cN_s, if_neg h]; exact nI_add _ 0
theorem cN_z {P : Nat → Prop} [DecidablePred P] : (0 : Int32) = nI (cN P 0) := by rw [cN_0]; rfl
theorem i32_le {x y : Int32} : x ≤ y ↔ x.toInt ≤ y.toInt := Int32.le_iff_toInt_le
theorem i32_lt {x y : Int32} : x < y ↔ x.toInt < y.toInt := Int32.lt_iff_toInt_lt
/-- an Int32 that is a Nat of at most N -/
abbrev cl (x : Int32) : Nat := x.toNatClampNeg
def okN (x : Int32) (N : Nat) : Prop := ∃ j : Nat, j ≤ N ∧ x = nI j
theorem okN.eq {x : Int32} {N : Nat} (h : okN x N) (hN : N < 2 ^ 31 := by omega) : x = nI (cl x) ∧ cl x ≤ N := by
  obtain ⟨j, h1, rfl⟩ := h
  rw [show cl (nI j) = j from nI_clamp (by omega)]
  exact ⟨rfl, h1⟩
theorem okN.le {x : Int32} {N : Nat} (h : okN x N) (hN : N < 2 ^ 31 := by omega) : cl x ≤ N := (h.eq hN).2
theorem okN.ge {x : Int32} {N p : Nat} (h : okN x N) (c : x ≤ nI p) (hp : p < 2 ^ 31 := by omega) (hN : N < 2 ^ 31 := by omega) : cl x ≤ p := by
  have e := h.eq hN
  rw [e.1] at c
  exact (nI_leI (by omega) hp).mp c
theorem okN.lt {x : Int32} {N p : Nat} (h : okN x N) (c : nI p < x) (hp : p < 2 ^ 31 := by omega) (hN : N < 2 ^ 31 := by omega) : p < cl x := by
  have e := h.eq hN
  rw [e.1] at c
  exact (nI_ltI hp (by omega)).mp c
theorem okN.vp {x : Int32} {N M : Nat} (h : okN x N) (hM : N < M) (hM2 : M < 2 ^ 31 := by omega) : vp_in x M := by
  obtain ⟨j, h1, rfl⟩ := h
  exact vp_in_nI (by omega) hM2
theorem lt_lit {k N : Nat} {c : Int32} (hc : c.toInt = (N : Int)) (h : nI k < c) (hk : k < 2 ^ 31) : k < N := by
  rw [i32_lt, nI_toInt hk, hc] at h; omega
theorem ge_lit {k N : Nat} {c : Int32} (hc : c.toInt = (N : Int)) (h : c ≤ nI k) (hk : k < 2 ^ 31) : N ≤ k := by
  rw [i32_le, nI_toInt hk, hc] at h; omega
theorem gt_lit {k N : Nat} {c : Int32} (hc : c.toInt = (N : Int)) (h : c < nI k) (hk : k < 2 ^ 31) : N < k := by
  rw [i32_lt, nI_toInt hk, hc] at h; omega
theorem le_lit {k N : Nat} {c : Int32} (hc : c.toInt = (N : Int)) (h : nI k ≤ c) (hk : k < 2 ^ 31) : k ≤ N := by
  rw [i32_le, nI_toInt hk, hc] at h; omega
theorem ix6 (l p : Nat) : (6 : Int32) * nI l + nI p = nI (6 * l + p) := by
  rw [show (6 : Int32) * nI l = nI (6 * l) from pk_mul 6 l]; exact nI_add _ _
theorem ix60 (l p : Nat) : (60 : Int32) * nI l + nI p = nI (60 * l + p) := by
  rw [show (60 : Int32) * nI l = nI (60 * l) from pk_mul 60 l]; exact nI_add _ _
theorem vpi {x : Int32} {n : Nat} (h0 : 0 ≤ x.toInt) (h1 : x.toInt < n) : vp_in x n := vp_in_iff.mpr ⟨h0, h1⟩

section GR2
variable {G : gG} {E : gE} {own : String} {cc : ByteArray} {nL lv mc ms pc k n : Nat} {Q : State → Prop} {L : List (Nat × Value)} {st : List Value} {h : hW}
theorem g_cV (X : Gc G E own cc nL lv mc ms) {idx nA lvc : Nat} {M : gM} (ml : MLv own idx M nA) {b : Nat} {As rest : List Value} {w : Value} {h1 : hW} (hM : Ct G E.l lvc 0 0 M (.ref b :: As) h (rX (some w) h1)) (hb : ∃ ci fs, h b = some (ob ci fs) ∧ (vwCl[ci]?).map (·.1) = some M.1.cls) (hlv : lvc + 1 ≤ lv) (hA : As.length = nA) (hst : st = As.reverse ++ .ref b :: rest) (hW : (rest.map fun v => v.category).sum ≤ 8) (hk : k ≤ mc) (hn : n ≤ ms) (d : decode cc pc = .ok (.invokevirtual idx, 3)) (K : GW G E Q nL (pc + 3) L (w :: rest) h1 k n) : GW G E Q nL pc L st h k n :=
  g_callV X ml hM hb hlv hA hst hW hk hn d (fun v h' q => by obtain ⟨rfl, rfl⟩ := q; exact K)
theorem g_cV0 (X : Gc G E own cc nL lv mc ms) {idx nA lvc : Nat} {M : gM} (ml : MLv own idx M nA) {b : Nat} {As rest : List Value} {h1 : hW} (hM : Ct G E.l lvc 0 0 M (.ref b :: As) h (rX none h1)) (hb : ∃ ci fs, h b = some (ob ci fs) ∧ (vwCl[ci]?).map (·.1) = some M.1.cls) (hlv : lvc + 1 ≤ lv) (hA : As.length = nA) (hst : st = As.reverse ++ .ref b :: rest) (hW : (rest.map fun v => v.category).sum ≤ 8) (hk : k ≤ mc) (hn : n ≤ ms) (d : decode cc pc = .ok (.invokevirtual idx, 3)) (K : GW G E Q nL (pc + 3) L rest h1 k n) : GW G E Q nL pc L st h k n :=
  g_callV X ml hM hb hlv hA hst hW hk hn d (fun v h' q => by obtain ⟨rfl, rfl⟩ := q; exact K)
theorem g_cVx (X : Gc G E own cc nL lv mc ms) {idx nA lvc mcc msc : Nat} {M : gM} (ml : MLv own idx M nA) {b : Nat} {As rest : List Value} {post : Option Value → hW → Prop} (hM : Ct G E.l lvc mcc msc M (.ref b :: As) h post) (hb : ∃ ci fs, h b = some (ob ci fs) ∧ (vwCl[ci]?).map (·.1) = some M.1.cls) (hlv : lvc + 1 ≤ lv) (hA : As.length = nA) (hst : st = As.reverse ++ .ref b :: rest) (hW : (rest.map fun v => v.category).sum ≤ 8) (hk : k + mcc ≤ mc) (hn : n + msc ≤ ms) (d : decode cc pc = .ok (.invokevirtual idx, 3)) (K : ∀ v h', post v h' → GW G E Q nL (pc + 3) L (v.toList ++ rest) h' (k + mcc) (n + msc)) : GW G E Q nL pc L st h k n :=
  g_callV X ml hM hb hlv hA hst hW hk hn d K
theorem g_cI (X : Gc G E own cc nL lv mc ms) {idx nA lvc : Nat} {M : gM} (ml : MLi own idx M nA) (hret : M.2.2.2 = none) {b : Nat} {As rest : List Value} {w : Value} {h1 : hW} (hM : Ct G E.l lvc 0 0 M (.ref b :: As) h (rX (some w) h1)) (hlv : lvc + 1 ≤ lv) (hA : As.length = nA) (hst : st = As.reverse ++ .ref b :: rest) (hW : (rest.map fun v => v.category).sum ≤ 8) (hk : k ≤ mc) (hn : n ≤ ms) (d : decode cc pc = .ok (.invokespecial idx, 3)) (K : GW G E Q nL (pc + 3) L (w :: rest) h1 k n) : GW G E Q nL pc L st h k n :=
  g_callI X ml hret hM hlv hA hst hW hk hn d (fun v h' q => by obtain ⟨rfl, rfl⟩ := q; exact K)
theorem g_cI0 (X : Gc G E own cc nL lv mc ms) {idx nA lvc : Nat} {M : gM} (ml : MLi own idx M nA) (hret : M.2.2.2 = none) {b : Nat} {As rest : List Value} {h1 : hW} (hM : Ct G E.l lvc 0 0 M (.ref b :: As) h (rX none h1)) (hlv : lvc + 1 ≤ lv) (hA : As.length = nA) (hst : st = As.reverse ++ .ref b :: rest) (hW : (rest.map fun v => v.category).sum ≤ 8) (hk : k ≤ mc) (hn : n ≤ ms) (d : decode cc pc = .ok (.invokespecial idx, 3)) (K : GW G E Q nL (pc + 3) L rest h1 k n) : GW G E Q nL pc L st h k n :=
  g_callI X ml hret hM hlv hA hst hW hk hn d (fun v h' q => by obtain ⟨rfl, rfl⟩ := q; exact K)
theorem g_cIx (X : Gc G E own cc nL lv mc ms) {idx nA lvc mcc msc : Nat} {M : gM} (ml : MLi own idx M nA) (hret : M.2.2.2 = none) {b : Nat} {As rest : List Value} {post : Option Value → hW → Prop} (hM : Ct G E.l lvc mcc msc M (.ref b :: As) h post) (hlv : lvc + 1 ≤ lv) (hA : As.length = nA) (hst : st = As.reverse ++ .ref b :: rest) (hW : (rest.map fun v => v.category).sum ≤ 8) (hk : k + mcc ≤ mc) (hn : n + msc ≤ ms) (d : decode cc pc = .ok (.invokespecial idx, 3)) (K : ∀ v h', post v h' → GW G E Q nL (pc + 3) L (v.toList ++ rest) h' (k + mcc) (n + msc)) : GW G E Q nL pc L st h k n :=
  g_callI X ml hret hM hlv hA hst hW hk hn d K
theorem g_cS (X : Gc G E own cc nL lv mc ms) {idx nA lvc : Nat} {M : gM} (ml : MLs own idx M nA) {As rest : List Value} {w : Value} {h1 : hW} (hM : Ct G E.l lvc 0 0 M As h (rX (some w) h1)) (hlv : lvc + 1 ≤ lv) (hA : As.length = nA) (hst : st = As.reverse ++ rest) (hW : (rest.map fun v => v.category).sum ≤ 8) (hk : k ≤ mc) (hn : n ≤ ms) (d : decode cc pc = .ok (.invokestatic idx, 3)) (K : GW G E Q nL (pc + 3) L (w :: rest) h1 k n) : GW G E Q nL pc L st h k n :=
  g_callS X ml hM hlv hA hst hW hk hn d (fun v h' q => by obtain ⟨rfl, rfl⟩ := q; exact K)
theorem g_cS0 (X : Gc G E own cc nL lv mc ms) {idx nA lvc : Nat} {M : gM} (ml : MLs own idx M nA) {As rest : List Value} {h1 : hW} (hM : Ct G E.l lvc 0 0 M As h (rX none h1)) (hlv : lvc + 1 ≤ lv) (hA : As.length = nA) (hst : st = As.reverse ++ rest) (hW : (rest.map fun v => v.category).sum ≤ 8) (hk : k ≤ mc) (hn : n ≤ ms) (d : decode cc pc = .ok (.invokestatic idx, 3)) (K : GW G E Q nL (pc + 3) L rest h1 k n) : GW G E Q nL pc L st h k n :=
  g_callS X ml hM hlv hA hst hW hk hn d (fun v h' q => by obtain ⟨rfl, rfl⟩ := q; exact K)
theorem g_cSx (X : Gc G E own cc nL lv mc ms) {idx nA lvc mcc msc : Nat} {M : gM} (ml : MLs own idx M nA) {As rest : List Value} {post : Option Value → hW → Prop} (hM : Ct G E.l lvc mcc msc M As h post) (hlv : lvc + 1 ≤ lv) (hA : As.length = nA) (hst : st = As.reverse ++ rest) (hW : (rest.map fun v => v.category).sum ≤ 8) (hk : k + mcc ≤ mc) (hn : n + msc ≤ ms) (d : decode cc pc = .ok (.invokestatic idx, 3)) (K : ∀ v h', post v h' → GW G E Q nL (pc + 3) L (v.toList ++ rest) h' (k + mcc) (n + msc)) : GW G E Q nL pc L st h k n :=
  g_callS X ml hM hlv hA hst hW hk hn d K
theorem g_eqi {x y : Int32} (e : x = y) (K : GW G E Q nL pc L (.int y :: st) h k n) : GW G E Q nL pc L (.int x :: st) h k n := e ▸ K
theorem g_eql {x y : Int64} (e : x = y) (K : GW G E Q nL pc L (.long y :: st) h k n) : GW G E Q nL pc L (.long x :: st) h k n := e ▸ K
theorem g_ret0r (X : Gc G E own cc nL lv mc ms) {mc' ms' : Nat} {M : gM} (F : gF E M) (hM : M.2.2.2 = none) {h1 : hW} (d : decode cc pc = .ok (.return_, 1)) (hk : k ≤ mc') (hn : n ≤ ms') (e : h = h1) : GW G E (gMQ G E mc' ms' (rX none h1)) nL pc L [] h k n := g_ret0 X F hM d hk hn ⟨rfl, e⟩
theorem g_tswIn (X : Gc G E own cc nL lv mc ms) {dflt lo hi : Int} {offs : Array Int} {len : Nat} {x : Int32} {off : Int} (tgt : Nat) (d : decode cc pc = .ok (.tableswitch dflt lo hi offs, len)) (h1 : ¬ x.toInt < lo) (h2 : ¬ hi < x.toInt) (ho : offs[(x.toInt - lo).toNat]? = some off) (ht : (pc : Int) + off = (tgt : Int)) (K : GW G E Q nL tgt L st h k n) : GW G E Q nL pc L (.int x :: st) h k n :=
  fun H locs ls a b c => lv_tableIn X.1 X.2.1 d h1 h2 ho ht (K H locs ls a b c)
theorem g_tswOut (X : Gc G E own cc nL lv mc ms) {dflt lo hi : Int} {offs : Array Int} {len : Nat} {x : Int32} (tgt : Nat) (d : decode cc pc = .ok (.tableswitch dflt lo hi offs, len)) (h1 : x.toInt < lo ∨ hi < x.toInt) (ht : (pc : Int) + dflt = (tgt : Int)) (K : GW G E Q nL tgt L st h k n) : GW G E Q nL pc L (.int x :: st) h k n :=
  fun H locs ls a b c => lv_tableOut X.1 X.2.1 d h1 ht (K H locs ls a b c)
end GR2
def mF (I : Nat → Int32) (ad : Nat → Nat) : List Value := [.int (I 0), .int (I 1), .ref (ad 2), .ref (ad 3), .ref (ad 4), .ref (ad 5), .ref (ad 6), .ref (ad 7), .ref (ad 8), .ref (ad 9), .ref (ad 10), .int (I 11), .ref (ad 12), .ref (ad 13), .ref (ad 14), .ref (ad 15), .ref (ad 16), .ref (ad 17), .ref (ad 18), .ref (ad 19), .ref (ad 20), .int (I 21), .ref (ad 22), .ref (ad 23), .ref (ad 24), .ref (ad 25), .int (I 26), .ref (ad 27), .int (I 28), .int (I 29), .int (I 30), .int (I 31), .int (I 32), .ref (ad 33), .ref (ad 34)]
def mJ (j : Nat) : Bool := j < 35 && !([0, 1, 11, 21, 26, 28, 29, 30, 31, 32].contains j)
def mE (G : gG) (j : Nat) (f : Nat → Int32) : va_E := match j with
  | 2 => aI G 12 f
  | 3 => aI G 12 f
  | 4 => aI G 12 f
  | 5 => aZ G 12 f
  | 6 => aI G 13 f
  | 7 => aB G 1872 f
  | 8 => aI G 156 f
  | 9 => aZ G 156 f
  | 10 => aZ G 156 f
  | 12 => aI G 4 f
  | 13 => aI G 80 f
  | 14 => aI G 80 f
  | 15 => aI G 81 f
  | 16 => aI G 81 f
  | 17 => aB G 32400 f
  | 18 => aI G 4860 f
  | 19 => aI G 4860 f
  | 20 => aI G 4860 f
  | 22 => aI G 480 f
  | 23 => aI G 480 f
  | 24 => aI G 480 f
  | 25 => aI G 10 f
  | 27 => aB G 400 f
  | 33 => aI G 5 f
  | _ => aI G 401 f
/-- the reference's cells: ix tells of an address which cell it is -/
def md (ix : Nat → Nat) (m : Nat) (ad : Nat → Nat) : Prop := (∀ b, ix b = 1 ↔ b = m) ∧ ∀ j, mJ j = true → ∀ b, ix b = j + 2 ↔ b = ad j
def mH (G : gG) (ix : Nat → Nat) (ad : Nat → Nat) (I : Nat → Int32) (Ar : Nat → Nat → Int32) (h0 : hW) : hW := fun b => match ix b with
  | 0 => h0 b
  | 1 => some (ob 7 (mF I ad))
  | j + 2 => if mJ j = true then some (mE G j (Ar j)) else h0 b
section MR
variable {G : gG} {ix : Nat → Nat} {m : Nat} {ad : Nat → Nat} {I : Nat → Int32} {Ar : Nat → Nat → Int32} {h0 : hW}
theorem mLm (D : md ix m ad) : mH G ix ad I Ar h0 m = some (ob 7 (mF I ad)) := by
  unfold mH
  rw [(D.1 m).mpr rfl]
theorem mLa (D : md ix m ad) (j : Nat) (hj : mJ j = true) : mH G ix ad I Ar h0 (ad j) = some (mE G j (Ar j)) := by
  unfold mH
  rw [(D.2 j hj (ad j)).mpr rfl]
  exact if_pos hj
theorem mUm (D : md ix m ad) (I' : Nat → Int32) : hup (mH G ix ad I Ar h0) m (ob 7 (mF I' ad)) = mH G ix ad I' Ar h0 := by
  funext b
  unfold hup
  by_cases hb : b = m
  · rw [if_pos hb, hb, mLm D]
  · rw [if_neg hb]
    have h1 : ix b ≠ 1 := fun q => hb ((D.1 b).mp q)
    unfold mH
    split <;> first | rfl | (rename_i q; exact absurd q h1)
theorem mUa (D : md ix m ad) (j : Nat) (hj : mJ j = true) (f : Nat → Int32) : hup (mH G ix ad I Ar h0) (ad j) (mE G j f) = mH G ix ad I (va_up Ar j f) h0 := by
  funext b
  unfold hup
  by_cases hb : b = ad j
  · rw [if_pos hb, hb, mLa D j hj]
    simp [va_up]
  · rw [if_neg hb]
    have h1 : ix b ≠ j + 2 := fun q => hb ((D.2 j hj b).mp q)
    unfold mH
    split
    · rfl
    · rfl
    · rename_i k q
      have hk : k ≠ j := fun z => h1 (by rw [q, z])
      simp [va_up, hk]
theorem mH_off (b : Nat) (hb : ix b = 0) : mH G ix ad I Ar h0 b = h0 b := by
  unfold mH
  rw [hb]
/-- the overlay's ground may be any that agrees off the cells -/
theorem mH_mH {I' : Nat → Int32} {Ar' : Nat → Nat → Int32} : mH G ix ad I Ar (mH G ix ad I' Ar' h0) = mH G ix ad I Ar h0 := by
  funext b
  unfold mH
  split
  · rfl
  · rfl
  · split
    · rfl
    · rename_i hc
      simp [hc]
theorem mset_0 (I : Nat → Int32) (ad : Nat → Nat) (x : Int32) : (mF I ad).set 0 (.int x) = mF (va_up I 0 x) ad := rfl
theorem mset_1 (I : Nat → Int32) (ad : Nat → Nat) (x : Int32) : (mF I ad).set 1 (.int x) = mF (va_up I 1 x) ad := rfl
theorem mset_11 (I : Nat → Int32) (ad : Nat → Nat) (x : Int32) : (mF I ad).set 11 (.int x) = mF (va_up I 11 x) ad := rfl
theorem mset_21 (I : Nat → Int32) (ad : Nat → Nat) (x : Int32) : (mF I ad).set 21 (.int x) = mF (va_up I 21 x) ad := rfl
theorem mset_26 (I : Nat → Int32) (ad : Nat → Nat) (x : Int32) : (mF I ad).set 26 (.int x) = mF (va_up I 26 x) ad := rfl
theorem mset_28 (I : Nat → Int32) (ad : Nat → Nat) (x : Int32) : (mF I ad).set 28 (.int x) = mF (va_up I 28 x) ad := rfl
theorem mset_29 (I : Nat → Int32) (ad : Nat → Nat) (x : Int32) : (mF I ad).set 29 (.int x) = mF (va_up I 29 x) ad := rfl
theorem mset_30 (I : Nat → Int32) (ad : Nat → Nat) (x : Int32) : (mF I ad).set 30 (.int x) = mF (va_up I 30 x) ad := rfl
theorem mset_31 (I : Nat → Int32) (ad : Nat → Nat) (x : Int32) : (mF I ad).set 31 (.int x) = mF (va_up I 31 x) ad := rfl
theorem mset_32 (I : Nat → Int32) (ad : Nat → Nat) (x : Int32) : (mF I ad).set 32 (.int x) = mF (va_up I 32 x) ad := rfl
variable {E : gE} {own : String} {cc : ByteArray} {nL lv mc ms pc k n : Nat} {Q : State → Prop} {L : List (Nat × Value)} {st : List Value}
theorem m_put (X : Gc G E own cc nL lv mc ms) (D : md ix m ad) (j : Nat) (hj : j < 35) {idx : Nat} (fl : FL own idx 7 j .int false) {x : Int32} (d : decode cc pc = .ok (.putfield idx, 3)) (he : (mF I ad).set j (.int x) = mF (va_up I j x) ad) (K : GW G E Q nL (pc + 3) L st (mH G ix ad (va_up I j x) Ar h0) k n) : GW G E Q nL pc L (.int x :: .ref m :: st) (mH G ix ad I Ar h0) k n :=
  g_putfield X fl d (mLm D) (show j < (mF I ad).length from hj) rfl rfl _ he (g_h (mUm D _) K)
end MR
end
section
section M1
variable {G : gG} {l : Launch} {ix : Nat → Nat} {m : Nat} {ad : Nat → Nat} {I : Nat → Int32} {Ar : Nat → Nat → Int32} {h0 h : hW}
abbrev inR (v lo hi : Int32) : Prop := ¬ v < lo ∧ ¬ hi < v
/-- thrown is put to 0 -/
abbrev t0 (I : Nat → Int32) : Nat → Int32 := va_up I 0 0
theorem c_X7_in (v lo hi : Int32) : Ct G l 0 0 0 M_X7_in [.int v, .int lo, .int hi] h (rX (some (.int (b2 (inR v lo hi)))) h) := by
  refine Ct.of (by decide +kernel) (Nat.le_of_ble_eq_true rfl) (fun E hE X F => ?_)
  have X : Gc G E "ComplaintDeskModel" cX7_in 3 0 0 0 := X
  show GW G E _ 3 0 [(0, _), (1, _), (2, _)] [] _ 0 0
  refine g_iload_n X dX7_in_0 0 rfl ?_
  refine g_iload_n X dX7_in_1 1 rfl ?_
  refine g_icmp_lt X 14 dX7_in_2 (by decide) (fun c_2 => ?_) (fun c_2 => ?_)
  · refine g_iconst X (v := 0) dX7_in_14 ki_0 ?_
    refine g_iret X F rfl rfl dX7_in_15 (Nat.zero_le _) (Nat.zero_le _) ?_
    exact ⟨by simp_all [b2], rfl⟩
  · refine g_iload_n X dX7_in_5 0 rfl ?_
    refine g_iload_n X dX7_in_6 2 rfl ?_
    refine g_icmp_gt X 14 dX7_in_7 (by decide) (fun c_7 => ?_) (fun c_7 => ?_)
    · refine g_iconst X (v := 0) dX7_in_14 ki_0 ?_
      refine g_iret X F rfl rfl dX7_in_15 (Nat.zero_le _) (Nat.zero_le _) ?_
      exact ⟨by simp_all [b2], rfl⟩
    · refine g_iconst X (v := 1) dX7_in_10 ki_1 ?_
      refine g_goto X 15 dX7_in_11 (by decide) ?_
      refine g_iret X F rfl rfl dX7_in_15 (Nat.zero_le _) (Nat.zero_le _) ?_
      exact ⟨by simp_all [b2], rfl⟩
theorem c_X7_thrown (D : md ix m ad)  : Ct G l 0 0 0 M_X7_thrown [.ref m] (mH G ix ad I Ar h0) (rX (some (.int (I 0))) (mH G ix ad I Ar h0)) := by
  refine Ct.of (by decide +kernel) (Nat.le_of_ble_eq_true rfl) (fun E hE X F => ?_)
  have X : Gc G E "ComplaintDeskModel" cX7_thrown 1 0 0 0 := X
  show GW G E _ 1 0 [(0, _)] [] _ 0 0
  refine g_aload_n X dX7_thrown_0 0 rfl ?_
  refine g_getfield X fl_X7_91 dX7_thrown_1 (mLm D) rfl ?_
  refine g_iret X F rfl rfl dX7_thrown_4 (Nat.zero_le _) (Nat.zero_le _) ?_
  exact ⟨rfl, rfl⟩
theorem c_X7_throwsIf (D : md ix m ad) (x code : Int32) (hx : x = 0 ∨ x = 1) : Ct G l 0 0 0 M_X7_throwsIf [.ref m, .int x, .int code] (mH G ix ad I Ar h0) (rX (some (.int x)) (mH G ix ad (if x = 0 then I else va_up I 0 code) Ar h0)) := by
  refine Ct.of (by decide +kernel) (Nat.le_of_ble_eq_true rfl) (fun E hE X F => ?_)
  have X : Gc G E "ComplaintDeskModel" cX7_throwsIf 3 0 0 0 := X
  show GW G E _ 3 0 [(0, _), (1, _), (2, _)] [] _ 0 0
  refine g_iload_n X dX7_throwsIf_0 1 rfl ?_
  refine g_if_eq X 9 dX7_throwsIf_1 (by decide) (fun c_1 => ?_) (fun c_1 => ?_)
  · refine g_iload_n X dX7_throwsIf_9 1 rfl ?_
    refine g_iret X F rfl (by rcases hx with rfl | rfl <;> rfl) dX7_throwsIf_10 (Nat.zero_le _) (Nat.zero_le _) ?_
    exact ⟨rfl, by simp [*]⟩
  · refine g_aload_n X dX7_throwsIf_4 0 rfl ?_
    refine g_iload_n X dX7_throwsIf_5 2 rfl ?_
    refine m_put X D 0 (by decide) fp_X7_91 dX7_throwsIf_6 (mset_0 _ _ _) ?_
    refine g_iload_n X dX7_throwsIf_9 1 rfl ?_
    refine g_iret X F rfl (by rcases hx with rfl | rfl <;> rfl) dX7_throwsIf_10 (Nat.zero_le _) (Nat.zero_le _) ?_
    exact ⟨rfl, by simp [*]⟩
theorem c_X7_noCause (D : md ix m ad) (c : Int32) : Ct G l 1 0 0 M_X7_noCause [.ref m, .int c] (mH G ix ad I Ar h0) (rX (some (.int (b2 (¬ inR c 0 (I 11 - 1))))) (mH G ix ad I Ar h0)) := by
  refine Ct.of (by decide +kernel) (Nat.le_of_ble_eq_true rfl) (fun E hE X F => ?_)
  have X : Gc G E "ComplaintDeskModel" cX7_noCause 2 1 0 0 := X
  show GW G E _ 2 0 [(0, _), (1, _)] [] _ 0 0
  refine g_iload_n X dX7_noCause_0 1 rfl ?_
  refine g_iconst X (v := 0) dX7_noCause_1 ki_0 ?_
  refine g_aload_n X dX7_noCause_2 0 rfl ?_
  refine g_getfield X fl_X7_94 dX7_noCause_3 (mLm D) rfl ?_
  refine g_iconst X (v := 1) dX7_noCause_6 ki_1 ?_
  refine g_isub X dX7_noCause_7 ?_
  refine g_cS X ml_X7_97 (c_X7_in _ _ _) (Nat.le_of_ble_eq_true rfl) rfl rfl (Nat.le_of_ble_eq_true rfl) (Nat.zero_le _) (Nat.zero_le _) dX7_noCause_8 ?_
  refine g_if_ne X 18 dX7_noCause_11 (by decide) (fun c_11 => ?_) (fun c_11 => ?_)
  · refine g_iconst X (v := 0) dX7_noCause_18 ki_0 ?_
    refine g_iret X F rfl rfl dX7_noCause_19 (Nat.zero_le _) (Nat.zero_le _) ?_
    exact ⟨by simp_all [b2], rfl⟩
  · refine g_iconst X (v := 1) dX7_noCause_14 ki_1 ?_
    refine g_goto X 19 dX7_noCause_15 (by decide) ?_
    refine g_iret X F rfl rfl dX7_noCause_19 (Nat.zero_le _) (Nat.zero_le _) ?_
    exact ⟨by simp_all [b2], rfl⟩
theorem c_X7_noLetter (D : md ix m ad) (c : Int32) : Ct G l 1 0 0 M_X7_noLetter [.ref m, .int c] (mH G ix ad I Ar h0) (rX (some (.int (b2 (¬ inR c 0 (I 21 - 1))))) (mH G ix ad I Ar h0)) := by
  refine Ct.of (by decide +kernel) (Nat.le_of_ble_eq_true rfl) (fun E hE X F => ?_)
  have X : Gc G E "ComplaintDeskModel" cX7_noLetter 2 1 0 0 := X
  show GW G E _ 2 0 [(0, _), (1, _)] [] _ 0 0
  refine g_iload_n X dX7_noLetter_0 1 rfl ?_
  refine g_iconst X (v := 0) dX7_noLetter_1 ki_0 ?_
  refine g_aload_n X dX7_noLetter_2 0 rfl ?_
  refine g_getfield X fl_X7_101 dX7_noLetter_3 (mLm D) rfl ?_
  refine g_iconst X (v := 1) dX7_noLetter_6 ki_1 ?_
  refine g_isub X dX7_noLetter_7 ?_
  refine g_cS X ml_X7_97 (c_X7_in _ _ _) (Nat.le_of_ble_eq_true rfl) rfl rfl (Nat.le_of_ble_eq_true rfl) (Nat.zero_le _) (Nat.zero_le _) dX7_noLetter_8 ?_
  refine g_if_ne X 18 dX7_noLetter_11 (by decide) (fun c_11 => ?_) (fun c_11 => ?_)
  · refine g_iconst X (v := 0) dX7_noLetter_18 ki_0 ?_
    refine g_iret X F rfl rfl dX7_noLetter_19 (Nat.zero_le _) (Nat.zero_le _) ?_
    exact ⟨by simp_all [b2], rfl⟩
  · refine g_iconst X (v := 1) dX7_noLetter_14 ki_1 ?_
    refine g_goto X 19 dX7_noLetter_15 (by decide) ?_
    refine g_iret X F rfl rfl dX7_noLetter_19 (Nat.zero_le _) (Nat.zero_le _) ?_
    exact ⟨by simp_all [b2], rfl⟩
theorem c_X7_noDesk (c : Int32) : Ct G l 1 0 0 M_X7_noDesk [.int c] h (rX (some (.int (b2 (¬ inR c 0 3)))) h) := by
  refine Ct.of (by decide +kernel) (Nat.le_of_ble_eq_true rfl) (fun E hE X F => ?_)
  have X : Gc G E "ComplaintDeskModel" cX7_noDesk 1 1 0 0 := X
  show GW G E _ 1 0 [(0, _)] [] _ 0 0
  refine g_iload_n X dX7_noDesk_0 0 rfl ?_
  refine g_iconst X (v := 0) dX7_noDesk_1 ki_0 ?_
  refine g_iconst X (v := 3) dX7_noDesk_2 ki_3 ?_
  refine g_cS X ml_X7_97 (c_X7_in _ _ _) (Nat.le_of_ble_eq_true rfl) rfl rfl (Nat.le_of_ble_eq_true rfl) (Nat.zero_le _) (Nat.zero_le _) dX7_noDesk_3 ?_
  refine g_if_ne X 13 dX7_noDesk_6 (by decide) (fun c_6 => ?_) (fun c_6 => ?_)
  · refine g_iconst X (v := 0) dX7_noDesk_13 ki_0 ?_
    refine g_iret X F rfl rfl dX7_noDesk_14 (Nat.zero_le _) (Nat.zero_le _) ?_
    exact ⟨by simp_all [b2], rfl⟩
  · refine g_iconst X (v := 1) dX7_noDesk_9 ki_1 ?_
    refine g_goto X 14 dX7_noDesk_10 (by decide) ?_
    refine g_iret X F rfl rfl dX7_noDesk_14 (Nat.zero_le _) (Nat.zero_le _) ?_
    exact ⟨by simp_all [b2], rfl⟩
abbrev noPt (I : Nat → Int32) (Ar : Nat → Nat → Int32) (l p : Int32) : Prop := ¬ inR l 0 (I 21 - 1) ∨ ¬ inR p 0 (Ar 15 l.toNatClampNeg - 1)
theorem c_X7_noPoint (D : md ix m ad) (lt p : Int32) (hl : inR lt 0 (I 21 - 1) → vp_in lt 81) : Ct G l 2 0 0 M_X7_noPoint [.ref m, .int lt, .int p] (mH G ix ad I Ar h0) (rX (some (.int (b2 (noPt I Ar lt p)))) (mH G ix ad I Ar h0)) := by
  refine Ct.of (by decide +kernel) (Nat.le_of_ble_eq_true rfl) (fun E hE X F => ?_)
  have X : Gc G E "ComplaintDeskModel" cX7_noPoint 3 2 0 0 := X
  show GW G E _ 3 0 [(0, _), (1, _), (2, _)] [] _ 0 0
  refine g_aload_n X dX7_noPoint_0 0 rfl ?_
  refine g_iload_n X dX7_noPoint_1 1 rfl ?_
  refine g_cV X ml_X7_104 (c_X7_noLetter D _) ⟨7, _, mLm D, rfl⟩ (Nat.le_of_ble_eq_true rfl) rfl rfl (Nat.le_of_ble_eq_true rfl) (Nat.zero_le _) (Nat.zero_le _) dX7_noPoint_2 ?_
  refine g_if_ne X 24 dX7_noPoint_5 (by decide) (fun c_5 => ?_) (fun c_5 => ?_)
  · refine g_iconst X (v := 1) dX7_noPoint_24 ki_1 ?_
    refine g_goto X 29 dX7_noPoint_25 (by decide) ?_
    refine g_iret X F rfl rfl dX7_noPoint_29 (Nat.zero_le _) (Nat.zero_le _) ?_
    exact ⟨by simp_all [b2, noPt], rfl⟩
  · refine g_iload_n X dX7_noPoint_8 2 rfl ?_
    refine g_iconst X (v := 0) dX7_noPoint_9 ki_0 ?_
    refine g_aload_n X dX7_noPoint_10 0 rfl ?_
    refine g_getfield X fl_X7_48 dX7_noPoint_11 (mLm D) rfl ?_
    refine g_iload_n X dX7_noPoint_14 1 rfl ?_
    refine g_iaload X dX7_noPoint_15 (mLa D 15 rfl) (hl (Decidable.not_not.mp (b2_0.mp c_5))) ?_
    refine g_iconst X (v := 1) dX7_noPoint_16 ki_1 ?_
    refine g_isub X dX7_noPoint_17 ?_
    refine g_cS X ml_X7_97 (c_X7_in _ _ _) (Nat.le_of_ble_eq_true rfl) rfl rfl (Nat.le_of_ble_eq_true rfl) (Nat.zero_le _) (Nat.zero_le _) dX7_noPoint_18 ?_
    refine g_if_ne X 28 dX7_noPoint_21 (by decide) (fun c_21 => ?_) (fun c_21 => ?_)
    · refine g_iconst X (v := 0) dX7_noPoint_28 ki_0 ?_
      refine g_iret X F rfl rfl dX7_noPoint_29 (Nat.zero_le _) (Nat.zero_le _) ?_
      exact ⟨by simp_all [b2, noPt], rfl⟩
    · refine g_iconst X (v := 1) dX7_noPoint_24 ki_1 ?_
      refine g_goto X 29 dX7_noPoint_25 (by decide) ?_
      refine g_iret X F rfl rfl dX7_noPoint_29 (Nat.zero_le _) (Nat.zero_le _) ?_
      exact ⟨by simp_all [b2, noPt], rfl⟩
theorem c_X7_fault (D : md ix m ad)  : Ct G l 0 0 0 M_X7_fault [.ref m] (mH G ix ad I Ar h0) (rX (some (.int (I 32))) (mH G ix ad (t0 I) Ar h0)) := by
  refine Ct.of (by decide +kernel) (Nat.le_of_ble_eq_true rfl) (fun E hE X F => ?_)
  have X : Gc G E "ComplaintDeskModel" cX7_fault 1 0 0 0 := X
  show GW G E _ 1 0 [(0, _)] [] _ 0 0
  refine g_aload_n X dX7_fault_0 0 rfl ?_
  refine g_iconst X (v := 0) dX7_fault_1 ki_0 ?_
  refine m_put X D 0 (by decide) fp_X7_91 dX7_fault_2 (mset_0 _ _ _) ?_
  refine g_aload_n X dX7_fault_5 0 rfl ?_
  refine g_getfield X fl_X7_81 dX7_fault_6 (mLm D) rfl ?_
  refine g_iret X F rfl rfl dX7_fault_9 (Nat.zero_le _) (Nat.zero_le _) ?_
  exact ⟨rfl, rfl⟩
theorem c_X7_end (D : md ix m ad) (n : Int32) : Ct G l 0 0 0 M_X7_end [.ref m, .int n] (mH G ix ad I Ar h0) (rX (some (.int (b2 (¬ n < 0 ∧ ¬ I 28 < n)))) (mH G ix ad (if ¬ n < 0 ∧ ¬ I 28 < n then va_up (t0 I) 28 n else t0 I) Ar h0)) := by
  refine Ct.of (by decide +kernel) (Nat.le_of_ble_eq_true rfl) (fun E hE X F => ?_)
  have X : Gc G E "ComplaintDeskModel" cX7_end 2 0 0 0 := X
  show GW G E _ 2 0 [(0, _), (1, _)] [] _ 0 0
  refine g_aload_n X dX7_end_0 0 rfl ?_
  refine g_iconst X (v := 0) dX7_end_1 ki_0 ?_
  refine m_put X D 0 (by decide) fp_X7_91 dX7_end_2 (mset_0 _ _ _) ?_
  refine g_iload_n X dX7_end_5 1 rfl ?_
  refine g_if_lt X 17 dX7_end_6 (by decide) (fun c_6 => ?_) (fun c_6 => ?_)
  · refine g_iconst X (v := 0) dX7_end_17 ki_0 ?_
    refine g_iret X F rfl rfl dX7_end_18 (Nat.zero_le _) (Nat.zero_le _) ?_
    exact ⟨by simp_all [b2, va_up], by simp_all [va_up]⟩
  · refine g_iload_n X dX7_end_9 1 rfl ?_
    refine g_aload_n X dX7_end_10 0 rfl ?_
    refine g_getfield X fl_X7_108 dX7_end_11 (mLm D) rfl ?_
    refine g_icmp_le X 19 dX7_end_14 (by decide) (fun c_14 => ?_) (fun c_14 => ?_)
    · refine g_aload_n X dX7_end_19 0 rfl ?_
      refine g_iload_n X dX7_end_20 1 rfl ?_
      refine m_put X D 28 (by decide) fp_X7_108 dX7_end_21 (mset_28 _ _ _) ?_
      refine g_iconst X (v := 1) dX7_end_24 ki_1 ?_
      refine g_iret X F rfl rfl dX7_end_25 (Nat.zero_le _) (Nat.zero_le _) ?_
      exact ⟨by simp_all [b2, va_up], by simp_all [va_up]⟩
    · refine g_iconst X (v := 0) dX7_end_17 ki_0 ?_
      refine g_iret X F rfl rfl dX7_end_18 (Nat.zero_le _) (Nat.zero_le _) ?_
      exact ⟨by simp_all [b2, va_up], by simp_all [va_up]⟩
theorem c_X7_uses (D : md ix m ad)  : Ct G l 0 0 0 M_X7_uses [.ref m] (mH G ix ad I Ar h0) (rX none (mH G ix ad (va_up (va_up (va_up (t0 I) 30 (I 28)) 28 0) 29 0) Ar h0)) := by
  refine Ct.of (by decide +kernel) (Nat.le_of_ble_eq_true rfl) (fun E hE X F => ?_)
  have X : Gc G E "ComplaintDeskModel" cX7_uses 1 0 0 0 := X
  show GW G E _ 1 0 [(0, _)] [] _ 0 0
  refine g_aload_n X dX7_uses_0 0 rfl ?_
  refine g_iconst X (v := 0) dX7_uses_1 ki_0 ?_
  refine m_put X D 0 (by decide) fp_X7_91 dX7_uses_2 (mset_0 _ _ _) ?_
  refine g_aload_n X dX7_uses_5 0 rfl ?_
  refine g_aload_n X dX7_uses_6 0 rfl ?_
  refine g_getfield X fl_X7_108 dX7_uses_7 (mLm D) rfl ?_
  refine m_put X D 30 (by decide) fp_X7_111 dX7_uses_10 (mset_30 _ _ _) ?_
  refine g_aload_n X dX7_uses_13 0 rfl ?_
  refine g_iconst X (v := 0) dX7_uses_14 ki_0 ?_
  refine m_put X D 28 (by decide) fp_X7_108 dX7_uses_15 (mset_28 _ _ _) ?_
  refine g_aload_n X dX7_uses_18 0 rfl ?_
  refine g_iconst X (v := 0) dX7_uses_19 ki_0 ?_
  refine m_put X D 29 (by decide) fp_X7_114 dX7_uses_20 (mset_29 _ _ _) ?_
  refine g_ret0 X F rfl dX7_uses_23 (Nat.zero_le _) (Nat.zero_le _) ?_
  exact ⟨rfl, rfl⟩
end M1
end
section
section M2
variable {G : gG} {l : Launch} {ix : Nat → Nat} {m : Nat} {ad : Nat → Nat} {I : Nat → Int32} {Ar : Nat → Nat → Int32} {h0 h : hW}
theorem c_X7_throwsIf0 (D : md ix m ad) (code : Int32) : Ct G l 0 0 0 M_X7_throwsIf [.ref m, .int 0, .int code] (mH G ix ad I Ar h0) (rX (some (.int 0)) (mH G ix ad I Ar h0)) := by
  have h := c_X7_throwsIf (G := G) (l := l) (I := I) (Ar := Ar) (h0 := h0) D 0 code (Or.inl rfl)
  rw [if_pos rfl] at h
  exact h
theorem c_X7_throwsIf1 (D : md ix m ad) (code : Int32) : Ct G l 0 0 0 M_X7_throwsIf [.ref m, .int 1, .int code] (mH G ix ad I Ar h0) (rX (some (.int 1)) (mH G ix ad (va_up I 0 code) Ar h0)) := by
  have h := c_X7_throwsIf (G := G) (l := l) (I := I) (Ar := Ar) (h0 := h0) D 1 code (Or.inr rfl)
  rw [if_neg (by decide)] at h
  exact h
/-- a desk's number as a Nat -/
theorem inR_nat {x : Int32} {N : Nat} (hN : N < 1000) (h : inR x 0 (nI N)) : ∃ j : Nat, j ≤ N ∧ x = nI j := by
  obtain ⟨j, h1, h2⟩ := nI_of2 (M := nI N) (n := N) (nI_toInt (by omega)) h.1 (Int32.not_lt.mp h.2)
  exact ⟨j, h1, h2⟩
abbrev isOfP (I : Nat → Int32) (Ar : Nat → Nat → Int32) (d : Int32) (k : Nat) : Prop := nI (k / 6) < I 21 ∧ nI (k % 6) < Ar 15 (k / 6) ∧ Ar 24 k < 0 ∧ 0 ≤ Ar 22 k ∧ Ar 3 (Ar 22 k).toNatClampNeg = d
theorem nIdiv6 {k : Nat} (hk : k < 480) : nI k / 6 = nI (k / 6) := pk_div (d := 6) (by omega) (by decide) (by decide)
theorem nIrem6 {k : Nat} (hk : k < 480) : nI k - nI k / 6 * 6 = nI (k % 6) := pk_rem (d := 6) (by omega) (by decide) (by decide)
theorem vp12 {x : Int32} (h0 : ¬ x < 0) (h : x < 12) : vp_in x 12 := by
  rw [i32_lt] at h0 h
  exact vpi (by simpa using h0) (by simpa using h)
theorem c_X7_isOf (D : md ix m ad) (d : Int32) (k : Nat) (hk : k < 480) (hC : Ar 22 k < 12) : Ct G l 0 0 0 M_X7_isOf [.ref m, .int d, .int (nI k)] (mH G ix ad I Ar h0) (rX (some (.int (b2 (isOfP I Ar d k)))) (mH G ix ad I Ar h0)) := by
  refine Ct.of (by decide +kernel) (Nat.le_of_ble_eq_true rfl) (fun E hE X F => ?_)
  have X : Gc G E "ComplaintDeskModel" cX7_isOf 3 0 0 0 := X
  show GW G E _ 3 0 [(0, _), (1, _), (2, _)] [] _ 0 0
  refine g_iload_n X dX7_isOf_0 2 rfl ?_
  refine g_bipush X (v := 6) dX7_isOf_1 kb_6 ?_
  refine g_idiv X dX7_isOf_3 (by decide) ?_
  refine g_eqi (y := nI (k / 6)) (nIdiv6 hk) ?_
  refine g_aload_n X dX7_isOf_4 0 rfl ?_
  refine g_getfield X fl_X7_101 dX7_isOf_5 (mLm D) rfl ?_
  refine g_icmp_ge X 64 dX7_isOf_8 (by decide) (fun c_8 => ?_) (fun c_8 => ?_)
  · refine g_iconst X (v := 0) dX7_isOf_64 ki_0 ?_
    refine g_iret X F rfl rfl dX7_isOf_65 (Nat.zero_le _) (Nat.zero_le _) ?_
    refine ⟨congrArg (fun z => some (Value.int z)) ?_, rfl⟩
    first | (refine (b2_t ?_).symm; simp_all [isOfP]; done) | (refine (b2_f ?_).symm; simp_all [isOfP]; done) | (refine (b2_f ?_).symm; simp only [isOfP, i32_le, i32_lt] at *; omega) | (refine (b2_t ?_).symm; simp only [isOfP, i32_le, i32_lt] at *; omega)
  · refine g_iload_n X dX7_isOf_11 2 rfl ?_
    refine g_bipush X (v := 6) dX7_isOf_12 kb_6 ?_
    refine g_irem X dX7_isOf_14 (by decide) ?_
    refine g_eqi (y := nI (k % 6)) (nIrem6 hk) ?_
    refine g_aload_n X dX7_isOf_15 0 rfl ?_
    refine g_getfield X fl_X7_48 dX7_isOf_16 (mLm D) rfl ?_
    refine g_iload_n X dX7_isOf_19 2 rfl ?_
    refine g_bipush X (v := 6) dX7_isOf_20 kb_6 ?_
    refine g_idiv X dX7_isOf_22 (by decide) ?_
    refine g_eqi (y := nI (k / 6)) (nIdiv6 hk) ?_
    refine g_iaload X dX7_isOf_23 (mLa D 15 rfl) (vp_in_nI (by omega) (by decide)) ?_
    refine g_eqi (y := Ar 15 (k / 6)) (by rw [nI_clamp (by omega)]) ?_
    refine g_icmp_ge X 64 dX7_isOf_24 (by decide) (fun c_24 => ?_) (fun c_24 => ?_)
    · refine g_iconst X (v := 0) dX7_isOf_64 ki_0 ?_
      refine g_iret X F rfl rfl dX7_isOf_65 (Nat.zero_le _) (Nat.zero_le _) ?_
      refine ⟨congrArg (fun z => some (Value.int z)) ?_, rfl⟩
      first | (refine (b2_t ?_).symm; simp_all [isOfP]; done) | (refine (b2_f ?_).symm; simp_all [isOfP]; done) | (refine (b2_f ?_).symm; simp only [isOfP, i32_le, i32_lt] at *; omega) | (refine (b2_t ?_).symm; simp only [isOfP, i32_le, i32_lt] at *; omega)
    · refine g_aload_n X dX7_isOf_27 0 rfl ?_
      refine g_getfield X fl_X7_72 dX7_isOf_28 (mLm D) rfl ?_
      refine g_iload_n X dX7_isOf_31 2 rfl ?_
      refine g_iaload X dX7_isOf_32 (mLa D 24 rfl) (vp_in_nI hk (by decide)) ?_
      refine g_eqi (y := Ar 24 k) (by rw [nI_clamp (by omega)]) ?_
      refine g_if_ge X 64 dX7_isOf_33 (by decide) (fun c_33 => ?_) (fun c_33 => ?_)
      · refine g_iconst X (v := 0) dX7_isOf_64 ki_0 ?_
        refine g_iret X F rfl rfl dX7_isOf_65 (Nat.zero_le _) (Nat.zero_le _) ?_
        refine ⟨congrArg (fun z => some (Value.int z)) ?_, rfl⟩
        first | (refine (b2_t ?_).symm; simp_all [isOfP]; done) | (refine (b2_f ?_).symm; simp_all [isOfP]; done) | (refine (b2_f ?_).symm; simp only [isOfP, i32_le, i32_lt] at *; omega) | (refine (b2_t ?_).symm; simp only [isOfP, i32_le, i32_lt] at *; omega)
      · refine g_aload_n X dX7_isOf_36 0 rfl ?_
        refine g_getfield X fl_X7_66 dX7_isOf_37 (mLm D) rfl ?_
        refine g_iload_n X dX7_isOf_40 2 rfl ?_
        refine g_iaload X dX7_isOf_41 (mLa D 22 rfl) (vp_in_nI hk (by decide)) ?_
        refine g_eqi (y := Ar 22 k) (by rw [nI_clamp (by omega)]) ?_
        refine g_if_lt X 64 dX7_isOf_42 (by decide) (fun c_42 => ?_) (fun c_42 => ?_)
        · refine g_iconst X (v := 0) dX7_isOf_64 ki_0 ?_
          refine g_iret X F rfl rfl dX7_isOf_65 (Nat.zero_le _) (Nat.zero_le _) ?_
          refine ⟨congrArg (fun z => some (Value.int z)) ?_, rfl⟩
          first | (refine (b2_t ?_).symm; simp_all [isOfP]; done) | (refine (b2_f ?_).symm; simp_all [isOfP]; done) | (refine (b2_f ?_).symm; simp only [isOfP, i32_le, i32_lt] at *; omega) | (refine (b2_t ?_).symm; simp only [isOfP, i32_le, i32_lt] at *; omega)
        · refine g_aload_n X dX7_isOf_45 0 rfl ?_
          refine g_getfield X fl_X7_13 dX7_isOf_46 (mLm D) rfl ?_
          refine g_aload_n X dX7_isOf_49 0 rfl ?_
          refine g_getfield X fl_X7_66 dX7_isOf_50 (mLm D) rfl ?_
          refine g_iload_n X dX7_isOf_53 2 rfl ?_
          refine g_iaload X dX7_isOf_54 (mLa D 22 rfl) (vp_in_nI hk (by decide)) ?_
          refine g_eqi (y := Ar 22 k) (by rw [nI_clamp (by omega)]) ?_
          refine g_iaload X dX7_isOf_55 (mLa D 3 rfl) (vp12 c_42 hC) ?_
          refine g_iload_n X dX7_isOf_56 1 rfl ?_
          refine g_icmp_ne X 64 dX7_isOf_57 (by decide) (fun c_57 => ?_) (fun c_57 => ?_)
          · refine g_iconst X (v := 0) dX7_isOf_64 ki_0 ?_
            refine g_iret X F rfl rfl dX7_isOf_65 (Nat.zero_le _) (Nat.zero_le _) ?_
            refine ⟨congrArg (fun z => some (Value.int z)) ?_, rfl⟩
            first | (refine (b2_t ?_).symm; simp_all [isOfP]; done) | (refine (b2_f ?_).symm; simp_all [isOfP]; done) | (refine (b2_f ?_).symm; simp only [isOfP, i32_le, i32_lt] at *; omega) | (refine (b2_t ?_).symm; simp only [isOfP, i32_le, i32_lt] at *; omega)
          · refine g_iconst X (v := 1) dX7_isOf_60 ki_1 ?_
            refine g_goto X 65 dX7_isOf_61 (by decide) ?_
            refine g_iret X F rfl rfl dX7_isOf_65 (Nat.zero_le _) (Nat.zero_le _) ?_
            refine ⟨congrArg (fun z => some (Value.int z)) ?_, rfl⟩
            first | (refine (b2_t ?_).symm; simp_all [isOfP]; done) | (refine (b2_f ?_).symm; simp_all [isOfP]; done) | (refine (b2_f ?_).symm; simp only [isOfP, i32_le, i32_lt] at *; omega) | (refine (b2_t ?_).symm; simp only [isOfP, i32_le, i32_lt] at *; omega)
/-- whether point k goes ahead of point o -/
abbrev ahV (Ar : Nat → Nat → Int32) (k o : Nat) : Int32 := if Ar 5 (Ar 22 k).toNatClampNeg = Ar 5 (Ar 22 o).toNatClampNeg then b2 (Ar 23 k < Ar 23 o) else Ar 5 (Ar 22 k).toNatClampNeg
/-- what a desk answers next, of the first n points -/
def bestF (I : Nat → Int32) (Ar : Nat → Nat → Int32) (d : Int32) : Nat → Option Nat
  | 0 => none
  | n + 1 => match bestF I Ar d n with
    | none => if isOfP I Ar d n then some n else none
    | some b => if isOfP I Ar d n ∧ ¬ ahV Ar n b = 0 then some n else some b
termination_by n => n
theorem bestF_s {I : Nat → Int32} {Ar : Nat → Nat → Int32} {d : Int32} {n : Nat} : bestF I Ar d (n + 1) = match bestF I Ar d n with
    | none => if isOfP I Ar d n then some n else none
    | some b => if isOfP I Ar d n ∧ ¬ ahV Ar n b = 0 then some n else some b := by rw [bestF]
theorem bestF_0 {I : Nat → Int32} {Ar : Nat → Nat → Int32} {d : Int32} : bestF I Ar d 0 = none := by rw [bestF]
def enO (o : Option Nat) : Int32 := match o with
  | none => -1
  | some j => nI j
theorem bestF_lt {I : Nat → Int32} {Ar : Nat → Nat → Int32} {d : Int32} : ∀ {n b : Nat}, bestF I Ar d n = some b → b < n ∧ isOfP I Ar d b
  | 0, b, h => by rw [bestF_0] at h; cases h
  | n + 1, b, h => by
    rw [bestF_s] at h
    split at h
    · split at h
      · cases h; exact ⟨Nat.lt_succ_self _, by assumption⟩
      · cases h
    · rename_i b' hb'
      split at h
      · rename_i hc; cases h; exact ⟨Nat.lt_succ_self _, hc.1⟩
      · cases h; exact ⟨Nat.lt_succ_of_lt (bestF_lt hb').1, (bestF_lt hb').2⟩
theorem c_X7_isAhead (D : md ix m ad) (k o : Nat) (hk : k < 480) (ho : o < 480) (hk1 : vp_in (Ar 22 k) 12) (ho1 : vp_in (Ar 22 o) 12) (hz : Ar 5 (Ar 22 k).toNatClampNeg = 0 ∨ Ar 5 (Ar 22 k).toNatClampNeg = 1) : Ct G l 0 0 0 M_X7_isAhead [.ref m, .int (nI k), .int (nI o)] (mH G ix ad I Ar h0) (rX (some (.int (ahV Ar k o))) (mH G ix ad I Ar h0)) := by
  refine Ct.of (by decide +kernel) (Nat.le_of_ble_eq_true rfl) (fun E hE X F => ?_)
  have X : Gc G E "ComplaintDeskModel" cX7_isAhead 5 0 0 0 := X
  show GW G E _ 5 0 [(0, _), (1, _), (2, _)] [] _ 0 0
  refine g_aload_n X dX7_isAhead_0 0 rfl ?_
  refine g_getfield X fl_X7_19 dX7_isAhead_1 (mLm D) rfl ?_
  refine g_aload_n X dX7_isAhead_4 0 rfl ?_
  refine g_getfield X fl_X7_66 dX7_isAhead_5 (mLm D) rfl ?_
  refine g_iload_n X dX7_isAhead_8 1 rfl ?_
  refine g_iaload X dX7_isAhead_9 (mLa D 22 rfl) (vp_in_nI hk (by decide)) ?_
  refine g_eqi (y := Ar 22 k) (by rw [nI_clamp (by omega)]) ?_
  refine g_zaload X dX7_isAhead_10 (mLa D 5 rfl) hk1 ?_
  refine g_istore_n X dX7_isAhead_11 (Nat.le_of_ble_eq_true rfl) [(3, _), (0, _), (1, _), (2, _)] rfl ?_
  refine g_aload_n X dX7_isAhead_12 1 rfl ?_
  refine g_getfield X fl_X7_19 dX7_isAhead_13 (mLm D) rfl ?_
  refine g_aload_n X dX7_isAhead_16 1 rfl ?_
  refine g_getfield X fl_X7_66 dX7_isAhead_17 (mLm D) rfl ?_
  refine g_iload_n X dX7_isAhead_20 3 rfl ?_
  refine g_iaload X dX7_isAhead_21 (mLa D 22 rfl) (vp_in_nI ho (by decide)) ?_
  refine g_eqi (y := Ar 22 o) (by rw [nI_clamp (by omega)]) ?_
  refine g_zaload X dX7_isAhead_22 (mLa D 5 rfl) ho1 ?_
  refine g_istore X dX7_isAhead_23 (Nat.le_of_ble_eq_true rfl) [(4, _), (3, _), (0, _), (1, _), (2, _)] rfl ?_
  refine g_iload_n X dX7_isAhead_25 1 rfl ?_
  refine g_iload X dX7_isAhead_26 0 rfl ?_
  refine g_icmp_eq X 35 dX7_isAhead_28 (by decide) (fun c_28 => ?_) (fun c_28 => ?_)
  · refine g_aload_n X dX7_isAhead_35 2 rfl ?_
    refine g_getfield X fl_X7_69 dX7_isAhead_36 (mLm D) rfl ?_
    refine g_iload_n X dX7_isAhead_39 3 rfl ?_
    refine g_iaload X dX7_isAhead_40 (mLa D 23 rfl) (vp_in_nI hk (by decide)) ?_
    refine g_eqi (y := Ar 23 k) (by rw [nI_clamp (by omega)]) ?_
    refine g_aload_n X dX7_isAhead_41 2 rfl ?_
    refine g_getfield X fl_X7_69 dX7_isAhead_42 (mLm D) rfl ?_
    refine g_iload_n X dX7_isAhead_45 4 rfl ?_
    refine g_iaload X dX7_isAhead_46 (mLa D 23 rfl) (vp_in_nI ho (by decide)) ?_
    refine g_eqi (y := Ar 23 o) (by rw [nI_clamp (by omega)]) ?_
    refine g_icmp_ge X 54 dX7_isAhead_47 (by decide) (fun c_47 => ?_) (fun c_47 => ?_)
    · refine g_iconst X (v := 0) dX7_isAhead_54 ki_0 ?_
      refine g_iret X F rfl (by first | rfl | (rcases hz with q | q <;> rw [q] <;> rfl)) dX7_isAhead_55 (Nat.zero_le _) (Nat.zero_le _) ?_
      exact ⟨by simp_all [b2, ahV], rfl⟩
    · refine g_iconst X (v := 1) dX7_isAhead_50 ki_1 ?_
      refine g_goto X 55 dX7_isAhead_51 (by decide) ?_
      refine g_iret X F rfl (by first | rfl | (rcases hz with q | q <;> rw [q] <;> rfl)) dX7_isAhead_55 (Nat.zero_le _) (Nat.zero_le _) ?_
      exact ⟨by simp_all [b2, ahV], rfl⟩
  · refine g_iload_n X dX7_isAhead_31 1 rfl ?_
    refine g_goto X 55 dX7_isAhead_32 (by decide) ?_
    refine g_iret X F rfl (by first | rfl | (rcases hz with q | q <;> rw [q] <;> rfl)) dX7_isAhead_55 (Nat.zero_le _) (Nat.zero_le _) ?_
    exact ⟨by simp_all [b2, ahV], rfl⟩
theorem clamp12 {x : Int32} (h : vp_in x 12) : x.toNatClampNeg < 12 := Nat.not_le.mp fun q => h (Or.inr q)
theorem enO_nn {o : Option Nat} (h : ∀ b, o = some b → b < 480) : enO o < 0 ↔ o = none := by
  cases o with
  | none => simp [enO]
  | some b => simp only [enO, reduceCtorEq, iff_false]; exact nI_pos (by have := h b rfl; omega)
theorem lp_X7_next_4 {E : gE} (X : Gc G E "ComplaintDeskModel" cX7_next 4 1 0 0) (F : gF E M_X7_next) (D : md ix m ad) (d : Int32) (hC : ∀ k, k < 480 → Ar 22 k < 12) (hT : ∀ c, c < 12 → Ar 5 c = 0 ∨ Ar 5 c = 1)  : ∀ (f : Nat) (k : Nat), k ≤ 480 → 480 - k < f → GW G E (gMQ G E 0 0 (rX (some (.int (enO (bestF I Ar d 480)))) (mH G ix ad I Ar h0))) 4 4 [(0, .ref m), (1, .int d), (2, .int (enO (bestF I Ar d k))), (3, .int (nI k))] [] (mH G ix ad I Ar h0) 0 0 := by
  intro f
  induction f with
  | zero => intro k hk hf; exact absurd hf (Nat.not_lt_zero _)
  | succ f ih =>
    intro k hk hf
    refine g_iload_n X dX7_next_4 3 rfl ?_
    refine g_sipush X (v := 480) dX7_next_5 ks_480 ?_
    refine g_icmp_ge X 41 dX7_next_8 (by decide) (fun c_8 => ?_) (fun c_8 => ?_)
    · have hk : k = 480 := by rw [i32_le, nI_toInt (by omega)] at c_8; have : (480 : Int32).toInt = 480 := rfl; omega
      subst hk
      refine g_iload_n X dX7_next_41 2 rfl ?_
      refine g_iret X F rfl rfl dX7_next_42 (Nat.zero_le _) (Nat.zero_le _) ?_
      exact ⟨rfl, rfl⟩
    · have hk8 : k < 480 := by rw [i32_le, nI_toInt (by omega)] at c_8; have : (480 : Int32).toInt = 480 := rfl; omega
      refine g_aload_n X dX7_next_11 0 rfl ?_
      refine g_iload_n X dX7_next_12 1 rfl ?_
      refine g_iload_n X dX7_next_13 3 rfl ?_
      refine g_cV X ml_X7_204 (c_X7_isOf D d k hk8 (hC k hk8)) ⟨7, _, mLm D, rfl⟩ (Nat.le_of_ble_eq_true rfl) rfl rfl (Nat.le_of_ble_eq_true rfl) (Nat.zero_le _) (Nat.zero_le _) dX7_next_14 ?_
      refine g_if_eq X 35 dX7_next_17 (by decide) (fun c_17 => ?_) (fun c_17 => ?_)
      · have e1 : bestF I Ar d (k + 1) = bestF I Ar d k := by rw [bestF_s]; split <;> simp_all [b2_0]
        refine g_iinc X (v := nI (k + 1)) dX7_next_35 3 rfl (nI_1 k) (Nat.le_of_ble_eq_true rfl) [(3, _), (0, _), (1, _), (2, _)] rfl ?_
        refine g_goto X 4 dX7_next_38 (by decide) ?_
        refine g_L [1, 2, 3, 0] (L' := [(0, _), (1, _), (2, _), (3, _)]) rfl ?_
        first | exact ih (k + 1) (by omega) (by omega) | (rw [← e1]; exact ih (k + 1) (by omega) (by omega)) | (rw [show nI k = enO (bestF I Ar d (k + 1)) by rw [e1]; rfl]; exact ih (k + 1) (by omega) (by omega))
      · have hp : isOfP I Ar d k := by rw [b2_0] at c_17; exact Decidable.not_not.mp c_17
        refine g_iload_n X dX7_next_20 2 rfl ?_
        refine g_if_lt X 33 dX7_next_21 (by decide) (fun c_21 => ?_) (fun c_21 => ?_)
        · have e2 : bestF I Ar d k = none := (enO_nn (fun b q => by have := bestF_lt q; omega)).mp c_21
          have e1 : bestF I Ar d (k + 1) = some k := by rw [bestF_s]; rw [e2]; exact if_pos hp
          refine g_iload_n X dX7_next_33 3 rfl ?_
          refine g_istore_n X dX7_next_34 (Nat.le_of_ble_eq_true rfl) [(2, _), (0, _), (1, _), (3, _)] rfl ?_
          refine g_iinc X (v := nI (k + 1)) dX7_next_35 3 rfl (nI_1 k) (Nat.le_of_ble_eq_true rfl) [(3, _), (2, _), (0, _), (1, _)] rfl ?_
          refine g_goto X 4 dX7_next_38 (by decide) ?_
          refine g_L [2, 3, 1, 0] (L' := [(0, _), (1, _), (2, _), (3, _)]) rfl ?_
          first | exact ih (k + 1) (by omega) (by omega) | (rw [← e1]; exact ih (k + 1) (by omega) (by omega)) | (rw [show nI k = enO (bestF I Ar d (k + 1)) by rw [e1]; rfl]; exact ih (k + 1) (by omega) (by omega))
        · obtain ⟨b, e2⟩ : ∃ b, bestF I Ar d k = some b := by cases q : bestF I Ar d k with | none => rw [q] at c_21; exact absurd (by decide) c_21 | some b => exact ⟨b, rfl⟩
          have hb := bestF_lt e2
          rw [e2]
          refine g_aload_n X dX7_next_24 0 rfl ?_
          refine g_iload_n X dX7_next_25 3 rfl ?_
          refine g_iload_n X dX7_next_26 2 rfl ?_
          refine g_cV X ml_X7_207 (c_X7_isAhead D k b hk8 (by omega) (vp12 (Int32.not_lt.mpr hp.2.2.2.1) (hC k hk8)) (vp12 (Int32.not_lt.mpr hb.2.2.2.2.1) (hC b (by omega))) (hT _ (clamp12 (vp12 (Int32.not_lt.mpr hp.2.2.2.1) (hC k hk8))))) ⟨7, _, mLm D, rfl⟩ (Nat.le_of_ble_eq_true rfl) rfl rfl (Nat.le_of_ble_eq_true rfl) (Nat.zero_le _) (Nat.zero_le _) dX7_next_27 ?_
          refine g_if_eq X 35 dX7_next_30 (by decide) (fun c_30 => ?_) (fun c_30 => ?_)
          · have e1 : bestF I Ar d (k + 1) = some b := by rw [bestF_s]; rw [e2]; exact if_neg (fun q => q.2 c_30)
            rw [show enO (some b) = enO (bestF I Ar d (k + 1)) by rw [e1]]
            refine g_iinc X (v := nI (k + 1)) dX7_next_35 3 rfl (nI_1 k) (Nat.le_of_ble_eq_true rfl) [(3, _), (0, _), (1, _), (2, _)] rfl ?_
            refine g_goto X 4 dX7_next_38 (by decide) ?_
            refine g_L [1, 2, 3, 0] (L' := [(0, _), (1, _), (2, _), (3, _)]) rfl ?_
            first | exact ih (k + 1) (by omega) (by omega) | (rw [← e1]; exact ih (k + 1) (by omega) (by omega)) | (rw [show nI k = enO (bestF I Ar d (k + 1)) by rw [e1]; rfl]; exact ih (k + 1) (by omega) (by omega))
          · have e1 : bestF I Ar d (k + 1) = some k := by rw [bestF_s]; rw [e2]; exact if_pos ⟨hp, c_30⟩
            refine g_iload_n X dX7_next_33 3 rfl ?_
            refine g_istore_n X dX7_next_34 (Nat.le_of_ble_eq_true rfl) [(2, _), (0, _), (1, _), (3, _)] rfl ?_
            refine g_iinc X (v := nI (k + 1)) dX7_next_35 3 rfl (nI_1 k) (Nat.le_of_ble_eq_true rfl) [(3, _), (2, _), (0, _), (1, _)] rfl ?_
            refine g_goto X 4 dX7_next_38 (by decide) ?_
            refine g_L [2, 3, 1, 0] (L' := [(0, _), (1, _), (2, _), (3, _)]) rfl ?_
            first | exact ih (k + 1) (by omega) (by omega) | (rw [← e1]; exact ih (k + 1) (by omega) (by omega)) | (rw [show nI k = enO (bestF I Ar d (k + 1)) by rw [e1]; rfl]; exact ih (k + 1) (by omega) (by omega))
theorem c_X7_next (D : md ix m ad) (d : Int32) (hC : ∀ k, k < 480 → Ar 22 k < 12) (hT : ∀ c, c < 12 → Ar 5 c = 0 ∨ Ar 5 c = 1)  : Ct G l 1 0 0 M_X7_next [.ref m, .int d] (mH G ix ad I Ar h0) (rX (some (.int (enO (bestF I Ar d 480)))) (mH G ix ad I Ar h0)) := by
  refine Ct.of (by decide +kernel) (Nat.le_of_ble_eq_true rfl) (fun E hE X F => ?_)
  have X : Gc G E "ComplaintDeskModel" cX7_next 4 1 0 0 := X
  show GW G E _ 4 0 [(0, _), (1, _)] [] _ 0 0
  refine g_iconst X (v := (-1)) dX7_next_0 ki_m1 ?_
  refine g_istore_n X dX7_next_1 (Nat.le_of_ble_eq_true rfl) [(2, _), (0, _), (1, _)] rfl ?_
  refine g_iconst X (v := 0) dX7_next_2 ki_0 ?_
  refine g_istore_n X dX7_next_3 (Nat.le_of_ble_eq_true rfl) [(3, _), (2, _), (0, _), (1, _)] rfl ?_
  refine g_L [2, 3, 1, 0] (L' := [(0, _), (1, _), (2, _), (3, _)]) rfl ?_
  refine g_L [0, 1, 2, 3] (L' := [(0, _), (1, _), (2, .int (enO (bestF I Ar d 0))), (3, _)]) (by rw [bestF_0]; rfl) ?_
  exact lp_X7_next_4 X F D d hC hT 481 0 (by omega) (by omega)
end M2
end
section
section M3
variable {G : gG} {l : Launch} {ix : Nat → Nat} {m : Nat} {ad : Nat → Nat} {I : Nat → Int32} {Ar : Nat → Nat → Int32} {h0 h : hW}
theorem lp_X7_waits_23 {E : gE} (X : Gc G E "ComplaintDeskModel" cX7_waits 4 2 0 0) (F : gF E M_X7_waits) (D : md ix m ad) (d : Int32) (hC : ∀ k, k < 480 → Ar 22 k < 12)  : ∀ (f : Nat) (k : Nat), k ≤ 480 → 480 - k < f → GW G E (gMQ G E 0 0 (rX (some (.int (nI (cN (isOfP I Ar d) 480)))) (mH G ix ad (t0 I) Ar h0))) 4 23 [(0, .ref m), (1, .int d), (2, .int (nI (cN (isOfP I Ar d) k))), (3, .int (nI k))] [] (mH G ix ad (t0 I) Ar h0) 0 0 := by
  intro f
  induction f with
  | zero => intro k hk hf; exact absurd hf (Nat.not_lt_zero _)
  | succ f ih =>
    intro k hk hf
    refine g_iload_n X dX7_waits_23 3 rfl ?_
    refine g_sipush X (v := 480) dX7_waits_24 ks_480 ?_
    refine g_icmp_ge X 53 dX7_waits_27 (by decide) (fun c_27 => ?_) (fun c_27 => ?_)
    · have hk : k = 480 := by have := ge_lit (N := 480) rfl c_27 (by omega); omega
      subst hk
      refine g_iload_n X dX7_waits_53 2 rfl ?_
      refine g_iret X F rfl rfl dX7_waits_54 (Nat.zero_le _) (Nat.zero_le _) ?_
      exact ⟨rfl, rfl⟩
    · have hk8 : k < 480 := lt_lit (N := 480) rfl (Int32.not_le.mp c_27) (by omega)
      refine g_iload_n X dX7_waits_30 2 rfl ?_
      refine g_aload_n X dX7_waits_31 0 rfl ?_
      refine g_iload_n X dX7_waits_32 1 rfl ?_
      refine g_iload_n X dX7_waits_33 3 rfl ?_
      refine g_cV X ml_X7_204 (c_X7_isOf (I := t0 I) D d k hk8 (hC k hk8)) ⟨7, _, mLm D, rfl⟩ (Nat.le_of_ble_eq_true rfl) rfl rfl (Nat.le_of_ble_eq_true rfl) (Nat.zero_le _) (Nat.zero_le _) dX7_waits_34 ?_
      refine g_if_eq X 44 dX7_waits_37 (by decide) (fun c_37 => ?_) (fun c_37 => ?_)
      · have hp : ¬ isOfP I Ar d k := b2_0.mp c_37
        refine g_iconst X (v := 0) dX7_waits_44 ki_0 ?_
        refine g_iadd X dX7_waits_45 ?_
        refine g_eqi (y := nI (cN (isOfP I Ar d) (k + 1))) (by first | exact cN_t hp | exact cN_f hp) ?_
        refine g_istore_n X dX7_waits_46 (Nat.le_of_ble_eq_true rfl) [(2, _), (0, _), (1, _), (3, _)] rfl ?_
        refine g_iinc X (v := nI (k + 1)) dX7_waits_47 3 rfl (nI_1 k) (Nat.le_of_ble_eq_true rfl) [(3, _), (2, _), (0, _), (1, _)] rfl ?_
        refine g_goto X 23 dX7_waits_50 (by decide) ?_
        refine g_L [2, 3, 1, 0] (L' := [(0, _), (1, _), (2, _), (3, _)]) rfl ?_
        exact ih (k + 1) (by omega) (by omega)
      · have hp : isOfP I Ar d k := Decidable.not_not.mp (fun q => c_37 (b2_0.mpr q))
        refine g_iconst X (v := 1) dX7_waits_40 ki_1 ?_
        refine g_goto X 45 dX7_waits_41 (by decide) ?_
        refine g_iadd X dX7_waits_45 ?_
        refine g_eqi (y := nI (cN (isOfP I Ar d) (k + 1))) (by first | exact cN_t hp | exact cN_f hp) ?_
        refine g_istore_n X dX7_waits_46 (Nat.le_of_ble_eq_true rfl) [(2, _), (0, _), (1, _), (3, _)] rfl ?_
        refine g_iinc X (v := nI (k + 1)) dX7_waits_47 3 rfl (nI_1 k) (Nat.le_of_ble_eq_true rfl) [(3, _), (2, _), (0, _), (1, _)] rfl ?_
        refine g_goto X 23 dX7_waits_50 (by decide) ?_
        refine g_L [2, 3, 1, 0] (L' := [(0, _), (1, _), (2, _), (3, _)]) rfl ?_
        exact ih (k + 1) (by omega) (by omega)
theorem c_X7_waits_e1 (D : md ix m ad) (d : Int32) (hd : ¬ inR d 0 3)  : Ct G l 2 0 0 M_X7_waits [.ref m, .int d] (mH G ix ad I Ar h0) (rX (some (.int 0)) (mH G ix ad (va_up (t0 I) 0 1) Ar h0)) := by
  refine Ct.of (by decide +kernel) (Nat.le_of_ble_eq_true rfl) (fun E hE X F => ?_)
  have X : Gc G E "ComplaintDeskModel" cX7_waits 4 2 0 0 := X
  show GW G E _ 4 0 [(0, _), (1, _)] [] _ 0 0
  refine g_aload_n X dX7_waits_0 0 rfl ?_
  refine g_iconst X (v := 0) dX7_waits_1 ki_0 ?_
  refine m_put X D 0 (by decide) fp_X7_91 dX7_waits_2 (mset_0 _ _ _) ?_
  refine g_aload_n X dX7_waits_5 0 rfl ?_
  refine g_iload_n X dX7_waits_6 1 rfl ?_
  refine g_cS X ml_X7_176 (c_X7_noDesk _) (Nat.le_of_ble_eq_true rfl) rfl rfl (Nat.le_of_ble_eq_true rfl) (Nat.zero_le _) (Nat.zero_le _) dX7_waits_7 ?_
  refine g_eqi (y := (1 : Int32)) (b2_t hd) ?_
  refine g_iconst X (v := 1) dX7_waits_10 ki_1 ?_
  refine g_cV X ml_X7_179 (c_X7_throwsIf1 D _) ⟨7, _, mLm D, rfl⟩ (Nat.le_of_ble_eq_true rfl) rfl rfl (Nat.le_of_ble_eq_true rfl) (Nat.zero_le _) (Nat.zero_le _) dX7_waits_11 ?_
  refine g_if_eq X 19 dX7_waits_14 (by decide) (fun c_14 => absurd c_14 (by decide)) (fun c_14 => ?_)
  refine g_iconst X (v := 0) dX7_waits_17 ki_0 ?_
  refine g_iret X F rfl rfl dX7_waits_18 (Nat.zero_le _) (Nat.zero_le _) ?_
  exact ⟨rfl, rfl⟩
theorem c_X7_waits (D : md ix m ad) (d : Int32) (hd : inR d 0 3) (hC : ∀ k, k < 480 → Ar 22 k < 12)  : Ct G l 2 0 0 M_X7_waits [.ref m, .int d] (mH G ix ad I Ar h0) (rX (some (.int (nI (cN (isOfP I Ar d) 480)))) (mH G ix ad (t0 I) Ar h0)) := by
  refine Ct.of (by decide +kernel) (Nat.le_of_ble_eq_true rfl) (fun E hE X F => ?_)
  have X : Gc G E "ComplaintDeskModel" cX7_waits 4 2 0 0 := X
  show GW G E _ 4 0 [(0, _), (1, _)] [] _ 0 0
  refine g_aload_n X dX7_waits_0 0 rfl ?_
  refine g_iconst X (v := 0) dX7_waits_1 ki_0 ?_
  refine m_put X D 0 (by decide) fp_X7_91 dX7_waits_2 (mset_0 _ _ _) ?_
  refine g_aload_n X dX7_waits_5 0 rfl ?_
  refine g_iload_n X dX7_waits_6 1 rfl ?_
  refine g_cS X ml_X7_176 (c_X7_noDesk _) (Nat.le_of_ble_eq_true rfl) rfl rfl (Nat.le_of_ble_eq_true rfl) (Nat.zero_le _) (Nat.zero_le _) dX7_waits_7 ?_
  refine g_eqi (y := (0 : Int32)) (b2_f (Decidable.not_not.mpr hd)) ?_
  refine g_iconst X (v := 1) dX7_waits_10 ki_1 ?_
  refine g_cV X ml_X7_179 (c_X7_throwsIf0 D _) ⟨7, _, mLm D, rfl⟩ (Nat.le_of_ble_eq_true rfl) rfl rfl (Nat.le_of_ble_eq_true rfl) (Nat.zero_le _) (Nat.zero_le _) dX7_waits_11 ?_
  refine g_if_eq X 19 dX7_waits_14 (by decide) (fun c_14 => ?_) (fun c_14 => absurd rfl c_14)
  refine g_iconst X (v := 0) dX7_waits_19 ki_0 ?_
  refine g_istore_n X dX7_waits_20 (Nat.le_of_ble_eq_true rfl) [(2, _), (0, _), (1, _)] rfl ?_
  refine g_iconst X (v := 0) dX7_waits_21 ki_0 ?_
  refine g_istore_n X dX7_waits_22 (Nat.le_of_ble_eq_true rfl) [(3, _), (2, _), (0, _), (1, _)] rfl ?_
  refine g_L [2, 3, 1, 0] (L' := [(0, _), (1, _), (2, _), (3, _)]) rfl ?_
  refine g_L [0, 1, 2, 3] (L' := [(0, _), (1, _), (2, .int (nI (cN (isOfP I Ar d) 0))), (3, _)]) (by rw [cN_0]; rfl) ?_
  exact lp_X7_waits_23 X F D d hC 481 0 (by omega) (by omega)
theorem c_X7_hours_e1 (D : md ix m ad) (d n : Int32) (hd : ¬ inR d 0 3)  : Ct G l 2 0 0 M_X7_hours [.ref m, .int d, .int n] (mH G ix ad I Ar h0) (rX (none) (mH G ix ad (va_up (t0 I) 0 1) Ar h0)) := by
  refine Ct.of (by decide +kernel) (Nat.le_of_ble_eq_true rfl) (fun E hE X F => ?_)
  have X : Gc G E "ComplaintDeskModel" cX7_hours 3 2 0 0 := X
  show GW G E _ 3 0 [(0, _), (1, _), (2, _)] [] _ 0 0
  refine g_aload_n X dX7_hours_0 0 rfl ?_
  refine g_iconst X (v := 0) dX7_hours_1 ki_0 ?_
  refine m_put X D 0 (by decide) fp_X7_91 dX7_hours_2 (mset_0 _ _ _) ?_
  refine g_aload_n X dX7_hours_5 0 rfl ?_
  refine g_iload_n X dX7_hours_6 1 rfl ?_
  refine g_cS X ml_X7_176 (c_X7_noDesk _) (Nat.le_of_ble_eq_true rfl) rfl rfl (Nat.le_of_ble_eq_true rfl) (Nat.zero_le _) (Nat.zero_le _) dX7_hours_7 ?_
  refine g_eqi (y := (1 : Int32)) (b2_t hd) ?_
  refine g_iconst X (v := 1) dX7_hours_10 ki_1 ?_
  refine g_cV X ml_X7_179 (c_X7_throwsIf1 D _) ⟨7, _, mLm D, rfl⟩ (Nat.le_of_ble_eq_true rfl) rfl rfl (Nat.le_of_ble_eq_true rfl) (Nat.zero_le _) (Nat.zero_le _) dX7_hours_11 ?_
  refine g_if_ne X 40 dX7_hours_14 (by decide) (fun c_14 => ?_) (fun c_14 => absurd c_14 (by decide))
  refine g_ret0 X F rfl dX7_hours_40 (Nat.zero_le _) (Nat.zero_le _) ?_
  exact ⟨rfl, rfl⟩
theorem c_X7_hours (D : md ix m ad) (d n : Int32) (hd : inR d 0 3) (hn : inR n 0 20) : Ct G l 2 0 0 M_X7_hours [.ref m, .int d, .int n] (mH G ix ad I Ar h0) (rX none (mH G ix ad (t0 I) (va_up Ar 12 (upd (Ar 12) (cl d) n)) h0)) := by
  refine Ct.of (by decide +kernel) (Nat.le_of_ble_eq_true rfl) (fun E hE X F => ?_)
  have X : Gc G E "ComplaintDeskModel" cX7_hours 3 2 0 0 := X
  show GW G E _ 3 0 [(0, _), (1, _), (2, _)] [] _ 0 0
  refine g_aload_n X dX7_hours_0 0 rfl ?_
  refine g_iconst X (v := 0) dX7_hours_1 ki_0 ?_
  refine m_put X D 0 (by decide) fp_X7_91 dX7_hours_2 (mset_0 _ _ _) ?_
  refine g_aload_n X dX7_hours_5 0 rfl ?_
  refine g_iload_n X dX7_hours_6 1 rfl ?_
  refine g_cS X ml_X7_176 (c_X7_noDesk _) (Nat.le_of_ble_eq_true rfl) rfl rfl (Nat.le_of_ble_eq_true rfl) (Nat.zero_le _) (Nat.zero_le _) dX7_hours_7 ?_
  refine g_eqi (y := (0 : Int32)) (b2_f (Decidable.not_not.mpr hd)) ?_
  refine g_iconst X (v := 1) dX7_hours_10 ki_1 ?_
  refine g_cV X ml_X7_179 (c_X7_throwsIf0 D _) ⟨7, _, mLm D, rfl⟩ (Nat.le_of_ble_eq_true rfl) rfl rfl (Nat.le_of_ble_eq_true rfl) (Nat.zero_le _) (Nat.zero_le _) dX7_hours_11 ?_
  refine g_if_ne X 40 dX7_hours_14 (by decide) (fun c_14 => absurd rfl c_14) (fun c_14 => ?_)
  refine g_aload_n X dX7_hours_17 0 rfl ?_
  refine g_iload_n X dX7_hours_18 2 rfl ?_
  refine g_iconst X (v := 0) dX7_hours_19 ki_0 ?_
  refine g_bipush X (v := 20) dX7_hours_20 kb_20 ?_
  refine g_cS X ml_X7_97 (c_X7_in _ _ _) (Nat.le_of_ble_eq_true rfl) rfl rfl (Nat.le_of_ble_eq_true rfl) (Nat.zero_le _) (Nat.zero_le _) dX7_hours_22 ?_
  refine g_eqi (y := (1 : Int32)) (b2_t hn) ?_
  refine g_if_ne X 32 dX7_hours_25 (by decide) (fun c_25 => ?_) (fun c_25 => absurd c_25 (by decide))
  refine g_iconst X (v := 0) dX7_hours_32 ki_0 ?_
  refine g_iconst X (v := 2) dX7_hours_33 ki_2 ?_
  refine g_cV X ml_X7_179 (c_X7_throwsIf0 D _) ⟨7, _, mLm D, rfl⟩ (Nat.le_of_ble_eq_true rfl) rfl rfl (Nat.le_of_ble_eq_true rfl) (Nat.zero_le _) (Nat.zero_le _) dX7_hours_34 ?_
  refine g_if_eq X 41 dX7_hours_37 (by decide) (fun c_37 => ?_) (fun c_37 => absurd rfl c_37)
  refine g_aload_n X dX7_hours_41 0 rfl ?_
  refine g_getfield X fl_X7_39 dX7_hours_42 (mLm D) rfl ?_
  refine g_iload_n X dX7_hours_45 1 rfl ?_
  refine g_iload_n X dX7_hours_46 2 rfl ?_
  refine g_iastore X dX7_hours_47 (mLa D 12 rfl) (by obtain ⟨j, q1, rfl⟩ := inR_nat (N := 3) (by decide) hd; exact vp_in_nI (by omega) (by decide)) (g_h (mUa D 12 rfl _) ?_)
  refine g_ret0 X F rfl dX7_hours_48 (Nat.zero_le _) (Nat.zero_le _) ?_
  exact ⟨rfl, rfl⟩
theorem c_X7_hours_e2 (D : md ix m ad) (d n : Int32) (hd : inR d 0 3) (hn : ¬ inR n 0 20) : Ct G l 2 0 0 M_X7_hours [.ref m, .int d, .int n] (mH G ix ad I Ar h0) (rX none (mH G ix ad (va_up (t0 I) 0 2) Ar h0)) := by
  refine Ct.of (by decide +kernel) (Nat.le_of_ble_eq_true rfl) (fun E hE X F => ?_)
  have X : Gc G E "ComplaintDeskModel" cX7_hours 3 2 0 0 := X
  show GW G E _ 3 0 [(0, _), (1, _), (2, _)] [] _ 0 0
  refine g_aload_n X dX7_hours_0 0 rfl ?_
  refine g_iconst X (v := 0) dX7_hours_1 ki_0 ?_
  refine m_put X D 0 (by decide) fp_X7_91 dX7_hours_2 (mset_0 _ _ _) ?_
  refine g_aload_n X dX7_hours_5 0 rfl ?_
  refine g_iload_n X dX7_hours_6 1 rfl ?_
  refine g_cS X ml_X7_176 (c_X7_noDesk _) (Nat.le_of_ble_eq_true rfl) rfl rfl (Nat.le_of_ble_eq_true rfl) (Nat.zero_le _) (Nat.zero_le _) dX7_hours_7 ?_
  refine g_eqi (y := (0 : Int32)) (b2_f (Decidable.not_not.mpr hd)) ?_
  refine g_iconst X (v := 1) dX7_hours_10 ki_1 ?_
  refine g_cV X ml_X7_179 (c_X7_throwsIf0 D _) ⟨7, _, mLm D, rfl⟩ (Nat.le_of_ble_eq_true rfl) rfl rfl (Nat.le_of_ble_eq_true rfl) (Nat.zero_le _) (Nat.zero_le _) dX7_hours_11 ?_
  refine g_if_ne X 40 dX7_hours_14 (by decide) (fun c_14 => absurd rfl c_14) (fun c_14 => ?_)
  refine g_aload_n X dX7_hours_17 0 rfl ?_
  refine g_iload_n X dX7_hours_18 2 rfl ?_
  refine g_iconst X (v := 0) dX7_hours_19 ki_0 ?_
  refine g_bipush X (v := 20) dX7_hours_20 kb_20 ?_
  refine g_cS X ml_X7_97 (c_X7_in _ _ _) (Nat.le_of_ble_eq_true rfl) rfl rfl (Nat.le_of_ble_eq_true rfl) (Nat.zero_le _) (Nat.zero_le _) dX7_hours_22 ?_
  refine g_eqi (y := (0 : Int32)) (b2_f hn) ?_
  refine g_if_ne X 32 dX7_hours_25 (by decide) (fun c_25 => absurd rfl c_25) (fun c_25 => ?_)
  refine g_iconst X (v := 1) dX7_hours_28 ki_1 ?_
  refine g_goto X 33 dX7_hours_29 (by decide) ?_
  refine g_iconst X (v := 2) dX7_hours_33 ki_2 ?_
  refine g_cV X ml_X7_179 (c_X7_throwsIf1 D _) ⟨7, _, mLm D, rfl⟩ (Nat.le_of_ble_eq_true rfl) rfl rfl (Nat.le_of_ble_eq_true rfl) (Nat.zero_le _) (Nat.zero_le _) dX7_hours_34 ?_
  refine g_if_eq X 41 dX7_hours_37 (by decide) (fun c_37 => absurd c_37 (by decide)) (fun c_37 => ?_)
  refine g_ret0 X F rfl dX7_hours_40 (Nat.zero_le _) (Nat.zero_le _) ?_
  exact ⟨rfl, rfl⟩
theorem ix6_480 {a b : Nat} (ha : a < 80) (hb : b < 6) : 6 * a + b < 480 := by omega
theorem c_X7_answer_e1 (D : md ix m ad) (lt p : Int32) (hl : inR lt 0 (I 21 - 1) → vp_in lt 81) (hd : noPt I Ar lt p)  : Ct G l 3 0 0 M_X7_answer [.ref m, .int lt, .int p] (mH G ix ad I Ar h0) (rX (some (.int 0)) (mH G ix ad (va_up (t0 I) 0 1) Ar h0)) := by
  refine Ct.of (by decide +kernel) (Nat.le_of_ble_eq_true rfl) (fun E hE X F => ?_)
  have X : Gc G E "ComplaintDeskModel" cX7_answer 3 3 0 0 := X
  show GW G E _ 3 0 [(0, _), (1, _), (2, _)] [] _ 0 0
  refine g_aload_n X dX7_answer_0 0 rfl ?_
  refine g_iconst X (v := 0) dX7_answer_1 ki_0 ?_
  refine m_put X D 0 (by decide) fp_X7_91 dX7_answer_2 (mset_0 _ _ _) ?_
  refine g_aload_n X dX7_answer_5 0 rfl ?_
  refine g_aload_n X dX7_answer_6 0 rfl ?_
  refine g_iload_n X dX7_answer_7 1 rfl ?_
  refine g_iload_n X dX7_answer_8 2 rfl ?_
  refine g_cV X ml_X7_214 (c_X7_noPoint (I := t0 I) D _ _ hl) ⟨7, _, mLm D, rfl⟩ (Nat.le_of_ble_eq_true rfl) rfl rfl (Nat.le_of_ble_eq_true rfl) (Nat.zero_le _) (Nat.zero_le _) dX7_answer_9 ?_
  refine g_eqi (y := (1 : Int32)) (b2_t hd) ?_
  refine g_iconst X (v := 1) dX7_answer_12 ki_1 ?_
  refine g_cV X ml_X7_179 (c_X7_throwsIf1 D _) ⟨7, _, mLm D, rfl⟩ (Nat.le_of_ble_eq_true rfl) rfl rfl (Nat.le_of_ble_eq_true rfl) (Nat.zero_le _) (Nat.zero_le _) dX7_answer_13 ?_
  refine g_if_ne X 33 dX7_answer_16 (by decide) (fun c_16 => ?_) (fun c_16 => absurd c_16 (by decide))
  refine g_iconst X (v := 0) dX7_answer_33 ki_0 ?_
  refine g_iret X F rfl rfl dX7_answer_34 (Nat.zero_le _) (Nat.zero_le _) ?_
  exact ⟨rfl, rfl⟩
theorem c_X7_answer (D : md ix m ad) (a b : Nat) (ha : a < 80) (hb : b < 6) (hl : inR (nI a) 0 (I 21 - 1) → vp_in (nI a) 81) (hd : ¬ noPt I Ar (nI a) (nI b))  : Ct G l 3 0 0 M_X7_answer [.ref m, .int (nI a), .int (nI b)] (mH G ix ad I Ar h0) (rX (some (.int (b2 (Ar 24 (6 * a + b) < 0)))) (mH G ix ad (t0 I) (if Ar 24 (6 * a + b) < 0 then va_up Ar 24 (upd (Ar 24) (6 * a + b) (I 1)) else Ar) h0)) := by
  refine Ct.of (by decide +kernel) (Nat.le_of_ble_eq_true rfl) (fun E hE X F => ?_)
  have X : Gc G E "ComplaintDeskModel" cX7_answer 3 3 0 0 := X
  show GW G E _ 3 0 [(0, _), (1, _), (2, _)] [] _ 0 0
  refine g_aload_n X dX7_answer_0 0 rfl ?_
  refine g_iconst X (v := 0) dX7_answer_1 ki_0 ?_
  refine m_put X D 0 (by decide) fp_X7_91 dX7_answer_2 (mset_0 _ _ _) ?_
  refine g_aload_n X dX7_answer_5 0 rfl ?_
  refine g_aload_n X dX7_answer_6 0 rfl ?_
  refine g_iload_n X dX7_answer_7 1 rfl ?_
  refine g_iload_n X dX7_answer_8 2 rfl ?_
  refine g_cV X ml_X7_214 (c_X7_noPoint (I := t0 I) D _ _ hl) ⟨7, _, mLm D, rfl⟩ (Nat.le_of_ble_eq_true rfl) rfl rfl (Nat.le_of_ble_eq_true rfl) (Nat.zero_le _) (Nat.zero_le _) dX7_answer_9 ?_
  refine g_eqi (y := (0 : Int32)) (b2_f hd) ?_
  refine g_iconst X (v := 1) dX7_answer_12 ki_1 ?_
  refine g_cV X ml_X7_179 (c_X7_throwsIf0 D _) ⟨7, _, mLm D, rfl⟩ (Nat.le_of_ble_eq_true rfl) rfl rfl (Nat.le_of_ble_eq_true rfl) (Nat.zero_le _) (Nat.zero_le _) dX7_answer_13 ?_
  refine g_if_ne X 33 dX7_answer_16 (by decide) (fun c_16 => absurd rfl c_16) (fun c_16 => ?_)
  refine g_aload_n X dX7_answer_19 0 rfl ?_
  refine g_getfield X fl_X7_72 dX7_answer_20 (mLm D) rfl ?_
  refine g_bipush X (v := 6) dX7_answer_23 kb_6 ?_
  refine g_iload_n X dX7_answer_25 1 rfl ?_
  refine g_imul X dX7_answer_26 ?_
  refine g_iload_n X dX7_answer_27 2 rfl ?_
  refine g_iadd X dX7_answer_28 ?_
  refine g_eqi (y := nI (6 * a + b)) (ix6 a b) ?_
  refine g_iaload X dX7_answer_29 (mLa D 24 rfl) (vp_in_nI (ix6_480 ha hb) (by decide)) ?_
  refine g_eqi (y := Ar 24 (6 * a + b)) (by rw [nI_clamp (by omega)]) ?_
  refine g_if_lt X 35 dX7_answer_30 (by decide) (fun c_30 => ?_) (fun c_30 => ?_)
  · refine g_aload_n X dX7_answer_35 0 rfl ?_
    refine g_getfield X fl_X7_72 dX7_answer_36 (mLm D) rfl ?_
    refine g_bipush X (v := 6) dX7_answer_39 kb_6 ?_
    refine g_iload_n X dX7_answer_41 1 rfl ?_
    refine g_imul X dX7_answer_42 ?_
    refine g_iload_n X dX7_answer_43 2 rfl ?_
    refine g_iadd X dX7_answer_44 ?_
    refine g_eqi (y := nI (6 * a + b)) (ix6 a b) ?_
    refine g_aload_n X dX7_answer_45 0 rfl ?_
    refine g_getfield X fl_X7_201 dX7_answer_46 (mLm D) rfl ?_
    refine g_iastore X dX7_answer_49 (mLa D 24 rfl) (vp_in_nI (ix6_480 ha hb) (by decide)) (g_h (mUa D 24 rfl _) ?_)
    refine g_iconst X (v := 1) dX7_answer_50 ki_1 ?_
    refine g_iret X F rfl rfl dX7_answer_51 (Nat.zero_le _) (Nat.zero_le _) ?_
    first | exact ⟨by rw [b2_t c_30], by rw [if_pos c_30, nI_clamp (by omega)]; rfl⟩ | exact ⟨by rw [b2_f c_30], by rw [if_neg c_30]⟩
  · refine g_iconst X (v := 0) dX7_answer_33 ki_0 ?_
    refine g_iret X F rfl rfl dX7_answer_34 (Nat.zero_le _) (Nat.zero_le _) ?_
    first | exact ⟨by rw [b2_t c_30], by rw [if_pos c_30, nI_clamp (by omega)]; rfl⟩ | exact ⟨by rw [b2_f c_30], by rw [if_neg c_30]⟩
theorem c_X7_template_e1 (D : md ix m ad) (q : Int32) (hd : (q ≤ 0 ∨ (1 : Int32) <<< (I 11 &&& 31) ≤ q)) : Ct G l 1 0 0 M_X7_template [.ref m, .int q] (mH G ix ad I Ar h0) (rX (some (.int 0)) (mH G ix ad (va_up (t0 I) 0 1) Ar h0)) := by
  refine Ct.of (by decide +kernel) (Nat.le_of_ble_eq_true rfl) (fun E hE X F => ?_)
  have X : Gc G E "ComplaintDeskModel" cX7_template 2 1 0 0 := X
  show GW G E _ 2 0 [(0, _), (1, _)] [] _ 0 0
  refine g_aload_n X dX7_template_0 0 rfl ?_
  refine g_iconst X (v := 0) dX7_template_1 ki_0 ?_
  refine m_put X D 0 (by decide) fp_X7_91 dX7_template_2 (mset_0 _ _ _) ?_
  refine g_aload_n X dX7_template_5 0 rfl ?_
  refine g_iload_n X dX7_template_6 1 rfl ?_
  refine g_if_le X 20 dX7_template_7 (by decide) (fun c_7 => ?_) (fun c_7 => ?_)
  · refine g_iconst X (v := 1) dX7_template_20 ki_1 ?_
    refine g_goto X 25 dX7_template_21 (by decide) ?_
    refine g_iconst X (v := 1) dX7_template_25 ki_1 ?_
    refine g_cV X ml_X7_179 (c_X7_throwsIf1 D _) ⟨7, _, mLm D, rfl⟩ (Nat.le_of_ble_eq_true rfl) rfl rfl (Nat.le_of_ble_eq_true rfl) (Nat.zero_le _) (Nat.zero_le _) dX7_template_26 ?_
    refine g_if_eq X 34 dX7_template_29 (by decide) (fun c_29 => absurd c_29 (by decide)) (fun c_29 => ?_)
    refine g_iconst X (v := 0) dX7_template_32 ki_0 ?_
    refine g_iret X F rfl rfl dX7_template_33 (Nat.zero_le _) (Nat.zero_le _) ?_
    exact ⟨rfl, rfl⟩
  · have hd := hd.resolve_left c_7
    refine g_iload_n X dX7_template_10 1 rfl ?_
    refine g_iconst X (v := 1) dX7_template_11 ki_1 ?_
    refine g_aload_n X dX7_template_12 0 rfl ?_
    refine g_getfield X fl_X7_94 dX7_template_13 (mLm D) rfl ?_
    refine g_ishl X dX7_template_16 ?_
    refine g_icmp_lt X 24 dX7_template_17 (by decide) (fun c_17 => ?_) (fun c_17 => ?_)
    · exact absurd hd (Int32.not_le.mpr c_17)
    · refine g_iconst X (v := 1) dX7_template_20 ki_1 ?_
      refine g_goto X 25 dX7_template_21 (by decide) ?_
      refine g_iconst X (v := 1) dX7_template_25 ki_1 ?_
      refine g_cV X ml_X7_179 (c_X7_throwsIf1 D _) ⟨7, _, mLm D, rfl⟩ (Nat.le_of_ble_eq_true rfl) rfl rfl (Nat.le_of_ble_eq_true rfl) (Nat.zero_le _) (Nat.zero_le _) dX7_template_26 ?_
      refine g_if_eq X 34 dX7_template_29 (by decide) (fun c_29 => absurd c_29 (by decide)) (fun c_29 => ?_)
      refine g_iconst X (v := 0) dX7_template_32 ki_0 ?_
      refine g_iret X F rfl rfl dX7_template_33 (Nat.zero_le _) (Nat.zero_le _) ?_
      exact ⟨rfl, rfl⟩
theorem c_X7_template (D : md ix m ad) (q : Int32) (hd : ¬ (q ≤ 0 ∨ (1 : Int32) <<< (I 11 &&& 31) ≤ q)) (hn : okN (I 26) 10) : Ct G l 1 0 0 M_X7_template [.ref m, .int q] (mH G ix ad I Ar h0) (rX (some (.int (if I 26 = 10 then -1 else I 26))) (mH G ix ad (if I 26 = 10 then t0 I else va_up (t0 I) 26 (I 26 + 1)) (if I 26 = 10 then Ar else va_up Ar 25 (upd (Ar 25) (cl (I 26)) q)) h0)) := by
  refine Ct.of (by decide +kernel) (Nat.le_of_ble_eq_true rfl) (fun E hE X F => ?_)
  have X : Gc G E "ComplaintDeskModel" cX7_template 2 1 0 0 := X
  show GW G E _ 2 0 [(0, _), (1, _)] [] _ 0 0
  refine g_aload_n X dX7_template_0 0 rfl ?_
  refine g_iconst X (v := 0) dX7_template_1 ki_0 ?_
  refine m_put X D 0 (by decide) fp_X7_91 dX7_template_2 (mset_0 _ _ _) ?_
  refine g_aload_n X dX7_template_5 0 rfl ?_
  refine g_iload_n X dX7_template_6 1 rfl ?_
  refine g_if_le X 20 dX7_template_7 (by decide) (fun c_7 => ?_) (fun c_7 => ?_)
  · exact absurd (by first | exact Or.inl c_7 | exact Or.inr (Int32.not_lt.mp c_17)) hd
  · refine g_iload_n X dX7_template_10 1 rfl ?_
    refine g_iconst X (v := 1) dX7_template_11 ki_1 ?_
    refine g_aload_n X dX7_template_12 0 rfl ?_
    refine g_getfield X fl_X7_94 dX7_template_13 (mLm D) rfl ?_
    refine g_ishl X dX7_template_16 ?_
    refine g_icmp_lt X 24 dX7_template_17 (by decide) (fun c_17 => ?_) (fun c_17 => ?_)
    · refine g_iconst X (v := 0) dX7_template_24 ki_0 ?_
      refine g_iconst X (v := 1) dX7_template_25 ki_1 ?_
      refine g_cV X ml_X7_179 (c_X7_throwsIf0 D _) ⟨7, _, mLm D, rfl⟩ (Nat.le_of_ble_eq_true rfl) rfl rfl (Nat.le_of_ble_eq_true rfl) (Nat.zero_le _) (Nat.zero_le _) dX7_template_26 ?_
      refine g_if_eq X 34 dX7_template_29 (by decide) (fun c_29 => ?_) (fun c_29 => absurd rfl c_29)
      refine g_aload_n X dX7_template_34 0 rfl ?_
      refine g_getfield X fl_X7_217 dX7_template_35 (mLm D) rfl ?_
      refine g_bipush X (v := 10) dX7_template_38 kb_10 ?_
      refine g_icmp_ne X 45 dX7_template_40 (by decide) (fun c_40 => ?_) (fun c_40 => ?_)
      · refine g_aload_n X dX7_template_45 0 rfl ?_
        refine g_getfield X fl_X7_75 dX7_template_46 (mLm D) rfl ?_
        refine g_aload_n X dX7_template_49 0 rfl ?_
        refine g_getfield X fl_X7_217 dX7_template_50 (mLm D) rfl ?_
        refine g_iload_n X dX7_template_53 1 rfl ?_
        refine g_iastore X dX7_template_54 (mLa D 25 rfl) (by obtain ⟨j, q1, q2⟩ := hn; have : j ≠ 10 := fun z => c_40 (by show I 26 = 10; rw [q2, z]; rfl); rw [show va_up I 0 0 26 = nI j from q2]; exact vp_in_nI (by omega) (by decide)) (g_h (mUa D 25 rfl _) ?_)
        refine g_aload_n X dX7_template_55 0 rfl ?_
        refine g_dup X dX7_template_56 rfl ?_
        refine g_getfield X fl_X7_217 dX7_template_57 (mLm D) rfl ?_
        refine g_iconst X (v := 1) dX7_template_60 ki_1 ?_
        refine g_iadd X dX7_template_61 ?_
        refine m_put X D 26 (by decide) fp_X7_217 dX7_template_62 (mset_26 _ _ _) ?_
        refine g_aload_n X dX7_template_65 0 rfl ?_
        refine g_getfield X fl_X7_217 dX7_template_66 (mLm D) rfl ?_
        refine g_iconst X (v := 1) dX7_template_69 ki_1 ?_
        refine g_isub X dX7_template_70 ?_
        refine g_iret X F rfl rfl dX7_template_71 (Nat.zero_le _) (Nat.zero_le _) ?_
        first
          | (have c : I 26 = 10 := c_40
             exact ⟨by rw [if_pos c], by rw [if_pos c, if_pos c]⟩)
          | (have c : ¬ I 26 = 10 := c_40
             refine ⟨?_, ?_⟩
             · rw [if_neg c]
               exact congrArg (fun z => some (Value.int z)) (by show I 26 + 1 - 1 = I 26; exact Int32.add_sub_cancel (I 26) 1)
             · rw [if_neg c, if_neg c]; rfl)
      · refine g_iconst X (v := (-1)) dX7_template_43 ki_m1 ?_
        refine g_iret X F rfl rfl dX7_template_44 (Nat.zero_le _) (Nat.zero_le _) ?_
        first
          | (have c : I 26 = 10 := c_40
             exact ⟨by rw [if_pos c], by rw [if_pos c, if_pos c]⟩)
          | (have c : ¬ I 26 = 10 := c_40
             refine ⟨?_, ?_⟩
             · rw [if_neg c]
               exact congrArg (fun z => some (Value.int z)) (by show I 26 + 1 - 1 = I 26; exact Int32.add_sub_cancel (I 26) 1)
             · rw [if_neg c, if_neg c]; rfl)
    · exact absurd (by first | exact Or.inl c_7 | exact Or.inr (Int32.not_lt.mp c_17)) hd
end M3
end
section
section M4
variable {G : gG} {l : Launch} {ix : Nat → Nat} {m : Nat} {ad : Nat → Nat} {I : Nat → Int32} {Ar : Nat → Nat → Int32} {h0 h : hW}
/-- one desk's day: n points at most -/
def stepW (I : Nat → Int32) (A : Nat → Nat → Int32) (d : Int32) (N : Nat) : Nat → Nat → Int32 := match bestF I A d N with
  | none => A
  | some j => va_up A 24 (upd (A 24) j (I 1))
def workM (I : Nat → Int32) (d : Int32) (N : Nat) (Ar : Nat → Nat → Int32) : Nat → Nat → Nat → Int32
  | 0 => Ar
  | n + 1 => stepW I (workM I d N Ar n) d N
termination_by n => n
abbrev workN (I : Nat → Int32) (Ar : Nat → Nat → Int32) (d : Int32) (n : Nat) : Nat → Nat → Int32 := workM I d 480 Ar n
theorem workN_0 {I : Nat → Int32} {Ar : Nat → Nat → Int32} {d : Int32} : workN I Ar d 0 = Ar := by unfold workN; rw [workM]
theorem workN_s {I : Nat → Int32} {Ar : Nat → Nat → Int32} {d : Int32} {n : Nat} : workN I Ar d (n + 1) = match bestF I (workN I Ar d n) d 480 with
    | none => workN I Ar d n
    | some j => va_up (workN I Ar d n) 24 (upd (workN I Ar d n 24) j (I 1)) := by unfold workN; rw [workM, stepW]
theorem workN_off {I : Nat → Int32} {Ar : Nat → Nat → Int32} {d : Int32} {n j : Nat} (h : j ≠ 24) : workN I Ar d n j = Ar j := by
  induction n with
  | zero => rw [workN_0]
  | succ n ih =>
    rw [workN_s]
    split
    · exact ih
    · simp only [va_up, if_neg h]; exact ih
def deskN (I : Nat → Int32) (Ar : Nat → Nat → Int32) : Nat → Nat → Nat → Int32
  | 0 => Ar
  | k + 1 => workN I (deskN I Ar k) (nI k) (cl (deskN I Ar k 12 k))
termination_by n => n
theorem deskN_0 {I : Nat → Int32} {Ar : Nat → Nat → Int32} : deskN I Ar 0 = Ar := by rw [deskN]
theorem deskN_s {I : Nat → Int32} {Ar : Nat → Nat → Int32} {k : Nat} : deskN I Ar (k + 1) = workN I (deskN I Ar k) (nI k) (cl (deskN I Ar k 12 k)) := by rw [deskN]
theorem deskN_off {I : Nat → Int32} {Ar : Nat → Nat → Int32} {n j : Nat} (h : j ≠ 24) : deskN I Ar n j = Ar j := by
  induction n with
  | zero => rw [deskN_0]
  | succ n ih => rw [deskN_s]; exact (workN_off h).trans ih
def dayN (I : Nat → Int32) (Ar : Nat → Nat → Int32) : Nat → (Nat → Int32) × (Nat → Nat → Int32)
  | 0 => (I, Ar)
  | n + 1 => (va_up (dayN I Ar n).1 1 ((dayN I Ar n).1 1 + 1), deskN (va_up (dayN I Ar n).1 1 ((dayN I Ar n).1 1 + 1)) (dayN I Ar n).2 4)
termination_by n => n
theorem dayN_0 {I : Nat → Int32} {Ar : Nat → Nat → Int32} : dayN I Ar 0 = (I, Ar) := by rw [dayN]
theorem dayN_s {I : Nat → Int32} {Ar : Nat → Nat → Int32} {n : Nat} : dayN I Ar (n + 1) = (va_up (dayN I Ar n).1 1 ((dayN I Ar n).1 1 + 1), deskN (va_up (dayN I Ar n).1 1 ((dayN I Ar n).1 1 + 1)) (dayN I Ar n).2 4) := by rw [dayN]
theorem dayN_off {I : Nat → Int32} {Ar : Nat → Nat → Int32} {n j : Nat} (h : j ≠ 24) : (dayN I Ar n).2 j = Ar j := by
  induction n with
  | zero => rw [dayN_0]
  | succ n ih => rw [dayN_s]; exact (deskN_off h).trans ih
theorem dayN_offI {I : Nat → Int32} {Ar : Nat → Nat → Int32} {n j : Nat} (h : j ≠ 1) : (dayN I Ar n).1 j = I j := by
  induction n with
  | zero => rw [dayN_0]
  | succ n ih => rw [dayN_s]; simp only [va_up, if_neg h]; exact ih
theorem dayN_1 {I : Nat → Int32} {Ar : Nat → Nat → Int32} {n t : Nat} (h : I 1 = nI t) : (dayN I Ar n).1 1 = nI (t + n) := by
  induction n with
  | zero => rw [dayN_0]; exact h
  | succ n ih => rw [dayN_s]; simp only [va_up, if_pos]; rw [ih, nI_1]; rfl
theorem lp_X7_days_67 {E : gE} (X : Gc G E "ComplaintDeskModel" cX7_days 6 4 0 0) {Q : State → Prop} (D : md ix m ad) (hC : ∀ k, k < 480 → Ar 22 k < 12) (hT : ∀ c, c < 12 → Ar 5 c = 0 ∨ Ar 5 c = 1) (k : Nat) (hk : k < 4) (hh : okN (Ar 12 k) 20) (n0 d0 : Int32) (K : GW G E Q 6 107 [(0, .ref m), (1, .int n0), (2, .int d0), (3, .int (nI k))] [] (mH G ix ad I (workN I Ar (nI k) (cl (Ar 12 k))) h0) 0 0) : ∀ (f : Nat) (j : Nat), j ≤ cl (Ar 12 k) → cl (Ar 12 k) - j < f → GW G E Q 6 67 [(0, .ref m), (1, .int n0), (2, .int d0), (3, .int (nI k)), (4, .int (nI j))] [] (mH G ix ad I (workN I Ar (nI k) j) h0) 0 0 := by
  intro f
  induction f with
  | zero => intro j hj hf; exact absurd hf (Nat.not_lt_zero _)
  | succ f ih =>
    intro j hj hf
    have hh1 := hh.le
    have eh : workN I Ar (nI k) j 12 k = Ar 12 k := by rw [workN_off (by decide)]
    have hC1 : ∀ k1, k1 < 480 → workN I Ar (nI k) j 22 k1 < 12 := fun k1 h1 => by rw [workN_off (by decide)]; exact hC k1 h1
    have hT1 : ∀ c, c < 12 → workN I Ar (nI k) j 5 c = 0 ∨ workN I Ar (nI k) j 5 c = 1 := fun c h1 => by rw [workN_off (by decide)]; exact hT c h1
    refine g_iload X dX7_days_67 4 rfl ?_
    refine g_aload_n X dX7_days_69 0 rfl ?_
    refine g_getfield X fl_X7_39 dX7_days_70 (mLm D) rfl ?_
    refine g_iload_n X dX7_days_73 3 rfl ?_
    refine g_iaload X dX7_days_74 (mLa D 12 rfl) (vp_in_nI (by omega) (by decide)) ?_
    refine g_eqi (y := Ar 12 k) (by rw [nI_clamp (by omega)]; exact eh) ?_
    refine g_icmp_ge X 107 dX7_days_75 (by decide) (fun c_75 => ?_) (fun c_75 => ?_)
    · have hj2 : j = cl (Ar 12 k) := by have := hh.ge c_75 (by omega); omega
      rw [hj2]
      refine g_L [0, 1, 2, 3] (L' := [(0, _), (1, _), (2, _), (3, _)]) rfl ?_
      exact K
    · have hj2 : j < cl (Ar 12 k) := hh.lt (Int32.not_le.mp c_75) (by omega)
      refine g_aload_n X dX7_days_78 0 rfl ?_
      refine g_iload_n X dX7_days_79 3 rfl ?_
      refine g_cV X ml_X7_210 (c_X7_next D (nI k) hC1 hT1) ⟨7, _, mLm D, rfl⟩ (Nat.le_of_ble_eq_true rfl) rfl rfl (Nat.le_of_ble_eq_true rfl) (Nat.zero_le _) (Nat.zero_le _) dX7_days_80 ?_
      refine g_istore X dX7_days_83 (Nat.le_of_ble_eq_true rfl) [(5, _), (0, _), (1, _), (2, _), (3, _), (4, _)] rfl ?_
      refine g_iload X dX7_days_85 0 rfl ?_
      refine g_if_lt X 101 dX7_days_87 (by decide) (fun c_87 => ?_) (fun c_87 => ?_)
      · have e1 : workN I Ar (nI k) (j + 1) = workN I Ar (nI k) j := by rw [workN_s, (enO_nn (fun b q => (bestF_lt q).1)).mp c_87]
        rw [← e1]
        refine g_iinc X (v := nI (j + 1)) dX7_days_101 5 rfl (nI_1 j) (Nat.le_of_ble_eq_true rfl) [(4, _), (5, _), (0, _), (1, _), (2, _), (3, _)] rfl ?_
        refine g_goto X 67 dX7_days_104 (by decide) ?_
        refine g_L [2, 3, 4, 5, 0] (L' := [(0, _), (1, _), (2, _), (3, _), (4, _)]) rfl ?_
        first | exact ih (j + 1) (by omega) (by omega) | (refine g_h (congrArg (fun a => mH G ix ad I a h0) e1) ?_; exact ih (j + 1) (by omega) (by omega))
      · obtain ⟨b, hb⟩ : ∃ b, bestF I (workN I Ar (nI k) j) (nI k) 480 = some b := by cases q : bestF I (workN I Ar (nI k) j) (nI k) 480 with | none => rw [q] at c_87; exact absurd (by decide) c_87 | some b => exact ⟨b, rfl⟩
        have e1 : va_up (workN I Ar (nI k) j) 24 (upd (workN I Ar (nI k) j 24) (cl (enO (bestF I (workN I Ar (nI k) j) (nI k) 480))) (I 1)) = workN I Ar (nI k) (j + 1) := by rw [workN_s, hb]; show va_up _ 24 (upd _ (cl (nI b)) _) = _; rw [show cl (nI b) = b from nI_clamp (by have := (bestF_lt hb).1; omega)]
        refine g_aload_n X dX7_days_90 1 rfl ?_
        refine g_getfield X fl_X7_72 dX7_days_91 (mLm D) rfl ?_
        refine g_iload X dX7_days_94 0 rfl ?_
        refine g_aload_n X dX7_days_96 1 rfl ?_
        refine g_getfield X fl_X7_201 dX7_days_97 (mLm D) rfl ?_
        refine g_iastore X dX7_days_100 (mLa D 24 rfl) (by rw [hb]; exact vp_in_nI (bestF_lt hb).1 (by decide)) (g_h (mUa D 24 rfl _) ?_)
        refine g_iinc X (v := nI (j + 1)) dX7_days_101 5 rfl (nI_1 j) (Nat.le_of_ble_eq_true rfl) [(4, _), (5, _), (0, _), (1, _), (2, _), (3, _)] rfl ?_
        refine g_goto X 67 dX7_days_104 (by decide) ?_
        refine g_L [2, 3, 4, 5, 0] (L' := [(0, _), (1, _), (2, _), (3, _), (4, _)]) rfl ?_
        first | exact ih (j + 1) (by omega) (by omega) | (refine g_h (congrArg (fun a => mH G ix ad I a h0) e1) ?_; exact ih (j + 1) (by omega) (by omega))
theorem lp_X7_days_59 {E : gE} (X : Gc G E "ComplaintDeskModel" cX7_days 6 4 0 0) {Q : State → Prop} (D : md ix m ad) (hC : ∀ k, k < 480 → Ar 22 k < 12) (hT : ∀ c, c < 12 → Ar 5 c = 0 ∨ Ar 5 c = 1) (hh : ∀ k, k < 4 → okN (Ar 12 k) 20) (n0 d0 : Int32) (K : GW G E Q 6 113 [(0, .ref m), (1, .int n0), (2, .int d0)] [] (mH G ix ad I (deskN I Ar 4) h0) 0 0) : ∀ (f : Nat) (k : Nat), k ≤ 4 → 4 - k < f → GW G E Q 6 59 [(0, .ref m), (1, .int n0), (2, .int d0), (3, .int (nI k))] [] (mH G ix ad I (deskN I Ar k) h0) 0 0 := by
  intro f
  induction f with
  | zero => intro k hk hf; exact absurd hf (Nat.not_lt_zero _)
  | succ f ih =>
    intro k hk hf
    refine g_iload_n X dX7_days_59 3 rfl ?_
    refine g_iconst X (v := 4) dX7_days_60 ki_4 ?_
    refine g_icmp_ge X 113 dX7_days_61 (by decide) (fun c_61 => ?_) (fun c_61 => ?_)
    · have hj2 : k = 4 := by have := ge_lit (N := 4) rfl c_61 (by omega); omega
      subst hj2
      refine g_L [0, 1, 2] (L' := [(0, _), (1, _), (2, _)]) rfl ?_
      exact K
    · have hj2 : k < 4 := lt_lit (N := 4) rfl (Int32.not_le.mp c_61) (by omega)
      refine g_iconst X (v := 0) dX7_days_64 ki_0 ?_
      refine g_istore X dX7_days_65 (Nat.le_of_ble_eq_true rfl) [(4, _), (0, _), (1, _), (2, _), (3, _)] rfl ?_
      refine g_L [1, 2, 3, 4, 0] (L' := [(0, _), (1, _), (2, _), (3, _), (4, _)]) rfl ?_
      refine (fun K => ?_ : GW G E Q 6 107 [(0, .ref m), (1, .int n0), (2, .int d0), (3, .int (nI k))] [] (mH G ix ad I (workN I (deskN I Ar k) (nI k) (cl (deskN I Ar k 12 k))) h0) 0 0 → _) ?_
      · refine g_h (h' := mH G ix ad I (workN I (deskN I Ar k) (nI k) 0) h0) (by rw [workN_0]) ?_
        exact lp_X7_days_67 X D (fun k1 h1 => by rw [deskN_off (by decide)]; exact hC k1 h1) (fun c h1 => by rw [deskN_off (by decide)]; exact hT c h1) k hj2 (by rw [deskN_off (by decide)]; exact hh k hj2) n0 d0 K _ 0 (Nat.zero_le _) (Nat.lt_succ_self _)
      rw [← deskN_s]
      refine g_iinc X (v := nI (k + 1)) dX7_days_107 3 rfl (nI_1 k) (Nat.le_of_ble_eq_true rfl) [(3, _), (0, _), (1, _), (2, _)] rfl ?_
      refine g_goto X 59 dX7_days_110 (by decide) ?_
      refine g_L [1, 2, 3, 0] (L' := [(0, _), (1, _), (2, _), (3, _)]) rfl ?_
      exact ih (k + 1) (by omega) (by omega)
theorem lp_X7_days_32 {E : gE} (X : Gc G E "ComplaintDeskModel" cX7_days 6 4 0 0) (F : gF E M_X7_days) (D : md ix m ad) (hC : ∀ k, k < 480 → Ar 22 k < 12) (hT : ∀ c, c < 12 → Ar 5 c = 0 ∨ Ar 5 c = 1) (hh : ∀ k, k < 4 → okN (Ar 12 k) 20) (n t : Nat) (hn : n ≤ 60) (ht : t ≤ 400) (hI : I 1 = nI t) : ∀ (f : Nat) (j : Nat), j ≤ min n (400 - t) → min n (400 - t) - j < f → GW G E (gMQ G E 0 0 (rX (some (.int (nI (t + min n (400 - t))))) (mH G ix ad (dayN (t0 I) Ar (min n (400 - t))).1 (dayN (t0 I) Ar (min n (400 - t))).2 h0))) 6 32 [(0, .ref m), (1, .int (nI n)), (2, .int (nI j))] [] (mH G ix ad (dayN (t0 I) Ar j).1 (dayN (t0 I) Ar j).2 h0) 0 0 := by
  intro f
  induction f with
  | zero => intro j hj hf; exact absurd hf (Nat.not_lt_zero _)
  | succ f ih =>
    intro j hj hf
    have e1 : (dayN (t0 I) Ar j).1 1 = nI (t + j) := dayN_1 hI
    refine g_iload_n X dX7_days_32 2 rfl ?_
    refine g_iload_n X dX7_days_33 1 rfl ?_
    refine g_icmp_ge X 119 dX7_days_34 (by decide) (fun c_34 => ?_) (fun c_34 => ?_)
    · have hj2 : j = min n (400 - t) := by have := (nI_leI (by omega) (by omega)).mp c_34; omega
      rw [← hj2]
      refine g_aload_n X dX7_days_119 0 rfl ?_
      refine g_getfield X fl_X7_201 dX7_days_120 (mLm D) rfl ?_
      refine g_eqi (y := nI (t + j)) (e1) ?_
      refine g_iret X F rfl rfl dX7_days_123 (Nat.zero_le _) (Nat.zero_le _) ?_
      exact ⟨rfl, rfl⟩
    · have hj2 : j < n := by have := (nI_ltI (by omega) (by omega)).mp (Int32.not_le.mp c_34); omega
      refine g_aload_n X dX7_days_37 0 rfl ?_
      refine g_getfield X fl_X7_201 dX7_days_38 (mLm D) rfl ?_
      refine g_eqi (y := nI (t + j)) (e1) ?_
      refine g_sipush X (v := 400) dX7_days_41 ks_400 ?_
      refine g_icmp_ge X 119 dX7_days_44 (by decide) (fun c_44 => ?_) (fun c_44 => ?_)
      · have hj3 : j = min n (400 - t) := by have := ge_lit (N := 400) rfl c_44 (by omega); omega
        rw [← hj3]
        refine g_aload_n X dX7_days_119 0 rfl ?_
        refine g_getfield X fl_X7_201 dX7_days_120 (mLm D) rfl ?_
        refine g_eqi (y := nI (t + j)) (e1) ?_
        refine g_iret X F rfl rfl dX7_days_123 (Nat.zero_le _) (Nat.zero_le _) ?_
        exact ⟨rfl, rfl⟩
      · have hj3 : t + j < 400 := lt_lit (N := 400) rfl (Int32.not_le.mp c_44) (by omega)
        refine g_aload_n X dX7_days_47 0 rfl ?_
        refine g_dup X dX7_days_48 rfl ?_
        refine g_getfield X fl_X7_201 dX7_days_49 (mLm D) rfl ?_
        refine g_iconst X (v := 1) dX7_days_52 ki_1 ?_
        refine g_iadd X dX7_days_53 ?_
        refine m_put X D 1 (by decide) fp_X7_201 dX7_days_54 (mset_1 _ _ _) ?_
        refine g_iconst X (v := 0) dX7_days_57 ki_0 ?_
        refine g_istore_n X dX7_days_58 (Nat.le_of_ble_eq_true rfl) [(3, _), (0, _), (1, _), (2, _)] rfl ?_
        refine g_L [1, 2, 3, 0] (L' := [(0, _), (1, _), (2, _), (3, _)]) rfl ?_
        refine (fun K => ?_ : GW G E (gMQ G E 0 0 (rX (some (.int (nI (t + min n (400 - t))))) (mH G ix ad (dayN (t0 I) Ar (min n (400 - t))).1 (dayN (t0 I) Ar (min n (400 - t))).2 h0))) 6 113 [(0, .ref m), (1, .int (nI n)), (2, .int (nI j))] [] (mH G ix ad (va_up (dayN (t0 I) Ar j).1 1 ((dayN (t0 I) Ar j).1 1 + 1)) (deskN (va_up (dayN (t0 I) Ar j).1 1 ((dayN (t0 I) Ar j).1 1 + 1)) (dayN (t0 I) Ar j).2 4) h0) 0 0 → _) ?_
        · refine g_h (h' := mH G ix ad _ (deskN (va_up (dayN (t0 I) Ar j).1 1 ((dayN (t0 I) Ar j).1 1 + 1)) (dayN (t0 I) Ar j).2 0) h0) (by rw [deskN_0]) ?_
          exact lp_X7_days_59 X D (fun k1 h1 => by rw [dayN_off (by decide)]; exact hC k1 h1) (fun c h1 => by rw [dayN_off (by decide)]; exact hT c h1) (fun k h1 => by rw [dayN_off (by decide)]; exact hh k h1) (nI n) (nI j) K 5 0 (by omega) (by omega)
        rw [show mH G ix ad (va_up (dayN (t0 I) Ar j).1 1 ((dayN (t0 I) Ar j).1 1 + 1)) (deskN (va_up (dayN (t0 I) Ar j).1 1 ((dayN (t0 I) Ar j).1 1 + 1)) (dayN (t0 I) Ar j).2 4) h0 = mH G ix ad (dayN (t0 I) Ar (j + 1)).1 (dayN (t0 I) Ar (j + 1)).2 h0 by rw [dayN_s]]
        refine g_iinc X (v := nI (j + 1)) dX7_days_113 2 rfl (nI_1 j) (Nat.le_of_ble_eq_true rfl) [(2, _), (0, _), (1, _)] rfl ?_
        refine g_goto X 32 dX7_days_116 (by decide) ?_
        refine g_L [1, 2, 0] (L' := [(0, _), (1, _), (2, _)]) rfl ?_
        exact ih (j + 1) (by omega) (by omega)
theorem c_X7_days_e1 (D : md ix m ad) (n : Int32) (hd : ¬ inR n 0 60) : Ct G l 4 0 0 M_X7_days [.ref m, .int n] (mH G ix ad I Ar h0) (rX (some (.int 0)) (mH G ix ad (va_up (t0 I) 0 1) Ar h0)) := by
  refine Ct.of (by decide +kernel) (Nat.le_of_ble_eq_true rfl) (fun E hE X F => ?_)
  have X : Gc G E "ComplaintDeskModel" cX7_days 6 4 0 0 := X
  show GW G E _ 6 0 [(0, _), (1, _)] [] _ 0 0
  refine g_aload_n X dX7_days_0 0 rfl ?_
  refine g_iconst X (v := 0) dX7_days_1 ki_0 ?_
  refine m_put X D 0 (by decide) fp_X7_91 dX7_days_2 (mset_0 _ _ _) ?_
  refine g_aload_n X dX7_days_5 0 rfl ?_
  refine g_iload_n X dX7_days_6 1 rfl ?_
  refine g_iconst X (v := 0) dX7_days_7 ki_0 ?_
  refine g_bipush X (v := 60) dX7_days_8 kb_60 ?_
  refine g_cS X ml_X7_97 (c_X7_in _ _ _) (Nat.le_of_ble_eq_true rfl) rfl rfl (Nat.le_of_ble_eq_true rfl) (Nat.zero_le _) (Nat.zero_le _) dX7_days_10 ?_
  refine g_eqi (y := (0 : Int32)) (b2_f hd) ?_
  refine g_if_ne X 20 dX7_days_13 (by decide) (fun c_13 => absurd rfl c_13) (fun c_13 => ?_)
  refine g_iconst X (v := 1) dX7_days_16 ki_1 ?_
  refine g_goto X 21 dX7_days_17 (by decide) ?_
  refine g_iconst X (v := 1) dX7_days_21 ki_1 ?_
  refine g_cV X ml_X7_179 (c_X7_throwsIf1 D _) ⟨7, _, mLm D, rfl⟩ (Nat.le_of_ble_eq_true rfl) rfl rfl (Nat.le_of_ble_eq_true rfl) (Nat.zero_le _) (Nat.zero_le _) dX7_days_22 ?_
  refine g_if_eq X 30 dX7_days_25 (by decide) (fun c_25 => absurd c_25 (by decide)) (fun c_25 => ?_)
  refine g_iconst X (v := 0) dX7_days_28 ki_0 ?_
  refine g_iret X F rfl rfl dX7_days_29 (Nat.zero_le _) (Nat.zero_le _) ?_
  exact ⟨rfl, rfl⟩
theorem c_X7_days (D : md ix m ad) (hC : ∀ k, k < 480 → Ar 22 k < 12) (hT : ∀ c, c < 12 → Ar 5 c = 0 ∨ Ar 5 c = 1) (hh : ∀ k, k < 4 → okN (Ar 12 k) 20) (n t : Nat) (hn : n ≤ 60) (ht : t ≤ 400) (hI : I 1 = nI t) : Ct G l 4 0 0 M_X7_days [.ref m, .int (nI n)] (mH G ix ad I Ar h0) (rX (some (.int (nI (t + min n (400 - t))))) (mH G ix ad (dayN (t0 I) Ar (min n (400 - t))).1 (dayN (t0 I) Ar (min n (400 - t))).2 h0)) := by
  refine Ct.of (by decide +kernel) (Nat.le_of_ble_eq_true rfl) (fun E hE X F => ?_)
  have X : Gc G E "ComplaintDeskModel" cX7_days 6 4 0 0 := X
  show GW G E _ 6 0 [(0, _), (1, _)] [] _ 0 0
  refine g_aload_n X dX7_days_0 0 rfl ?_
  refine g_iconst X (v := 0) dX7_days_1 ki_0 ?_
  refine m_put X D 0 (by decide) fp_X7_91 dX7_days_2 (mset_0 _ _ _) ?_
  refine g_aload_n X dX7_days_5 0 rfl ?_
  refine g_iload_n X dX7_days_6 1 rfl ?_
  refine g_iconst X (v := 0) dX7_days_7 ki_0 ?_
  refine g_bipush X (v := 60) dX7_days_8 kb_60 ?_
  refine g_cS X ml_X7_97 (c_X7_in _ _ _) (Nat.le_of_ble_eq_true rfl) rfl rfl (Nat.le_of_ble_eq_true rfl) (Nat.zero_le _) (Nat.zero_le _) dX7_days_10 ?_
  refine g_eqi (y := (1 : Int32)) (b2_t ⟨nI_pos (by omega), nI_nlt (b := n) (a := 60) hn (by decide)⟩) ?_
  refine g_if_ne X 20 dX7_days_13 (by decide) (fun c_13 => ?_) (fun c_13 => absurd c_13 (by decide))
  refine g_iconst X (v := 0) dX7_days_20 ki_0 ?_
  refine g_iconst X (v := 1) dX7_days_21 ki_1 ?_
  refine g_cV X ml_X7_179 (c_X7_throwsIf0 D _) ⟨7, _, mLm D, rfl⟩ (Nat.le_of_ble_eq_true rfl) rfl rfl (Nat.le_of_ble_eq_true rfl) (Nat.zero_le _) (Nat.zero_le _) dX7_days_22 ?_
  refine g_if_eq X 30 dX7_days_25 (by decide) (fun c_25 => ?_) (fun c_25 => absurd rfl c_25)
  refine g_iconst X (v := 0) dX7_days_30 ki_0 ?_
  refine g_istore_n X dX7_days_31 (Nat.le_of_ble_eq_true rfl) [(2, _), (0, _), (1, _)] rfl ?_
  refine g_L [1, 2, 0] (L' := [(0, _), (1, _), (2, _)]) rfl ?_
  refine g_h (h' := mH G ix ad (dayN (t0 I) Ar 0).1 (dayN (t0 I) Ar 0).2 h0) (by rw [dayN_0]) ?_
  exact lp_X7_days_32 X F D hC hT hh n t hn ht hI 61 0 (by omega) (by omega)
theorem ball_s {P : Nat → Prop} {n : Nat} : (∀ q, q < n + 1 → P q) ↔ (∀ q, q < n → P q) ∧ P n :=
  ⟨fun h => ⟨fun q hq => h q (by omega), h n (by omega)⟩, fun h q hq => by by_cases e : q = n; exact e ▸ h.2; exact h.1 q (by omega)⟩
abbrev clP (Ar : Nat → Nat → Int32) (a p : Nat) : Prop := ∀ q, q < p → ¬ Ar 24 (6 * a + q) < 0
def sN (f : Nat → Nat) : Nat → Nat
  | 0 => 0
  | n + 1 => sN f n + f n
termination_by n => n
theorem sN_0 {f : Nat → Nat} : sN f 0 = 0 := by rw [sN]
theorem sN_s {f : Nat → Nat} {n : Nat} : sN f (n + 1) = sN f n + f n := by rw [sN]
theorem sN_le {f : Nat → Nat} {c : Nat} (h : ∀ k, f k ≤ c) (n : Nat) : sN f n ≤ n * c := by
  induction n with
  | zero => rw [sN_0]; exact Nat.zero_le _
  | succ n ih => have := h n; rw [sN_s, Nat.add_mul]; omega
theorem lp_X7_isClosed_4 {E : gE} (X : Gc G E "ComplaintDeskModel" cX7_isClosed 4 0 0 0) (F : gF E M_X7_isClosed) (D : md ix m ad) (a : Nat) (ha : a < 80) (hp : okN (Ar 15 a) 6) : ∀ (f : Nat) (p : Nat), p ≤ cl (Ar 15 a) → cl (Ar 15 a) - p < f → GW G E (gMQ G E 0 0 (rX (some (.int (b2 (clP Ar a (cl (Ar 15 a)))))) (mH G ix ad I Ar h0))) 4 4 [(0, .ref m), (1, .int (nI a)), (2, .int (b2 (clP Ar a p))), (3, .int (nI p))] [] (mH G ix ad I Ar h0) 0 0 := by
  intro f
  induction f with
  | zero => intro p hpp hf; exact absurd hf (Nat.not_lt_zero _)
  | succ f ih =>
    intro p hpp hf
    have hp6 := hp.le
    refine g_iload_n X dX7_isClosed_4 3 rfl ?_
    refine g_aload_n X dX7_isClosed_5 0 rfl ?_
    refine g_getfield X fl_X7_48 dX7_isClosed_6 (mLm D) rfl ?_
    refine g_iload_n X dX7_isClosed_9 1 rfl ?_
    refine g_iaload X dX7_isClosed_10 (mLa D 15 rfl) (vp_in_nI (by omega) (by decide)) ?_
    refine g_eqi (y := Ar 15 a) (by rw [nI_clamp (by omega)]) ?_
    refine g_icmp_ge X 44 dX7_isClosed_11 (by decide) (fun c_11 => ?_) (fun c_11 => ?_)
    · have hq : p = cl (Ar 15 a) := by have := hp.ge c_11 (by omega); omega
      rw [hq]
      refine g_iload_n X dX7_isClosed_44 2 rfl ?_
      refine g_iret X F rfl b2_n dX7_isClosed_45 (Nat.zero_le _) (Nat.zero_le _) ?_
      exact ⟨rfl, rfl⟩
    · have hq : p < cl (Ar 15 a) := hp.lt (Int32.not_le.mp c_11) (by omega)
      refine g_iload_n X dX7_isClosed_14 2 rfl ?_
      refine g_if_eq X 36 dX7_isClosed_15 (by decide) (fun c_15 => ?_) (fun c_15 => ?_)
      · have e1 : (0 : Int32) = b2 (clP Ar a (p + 1)) := (b2_f (fun q => b2_0.mp c_15 (ball_s.mp q).1)).symm
        refine g_iconst X (v := 0) dX7_isClosed_36 ki_0 ?_
        refine g_eqi (y := b2 (clP Ar a (p + 1))) e1 ?_
        refine g_istore_n X dX7_isClosed_37 (Nat.le_of_ble_eq_true rfl) [(2, _), (0, _), (1, _), (3, _)] rfl ?_
        refine g_iinc X (v := nI (p + 1)) dX7_isClosed_38 3 rfl (nI_1 p) (Nat.le_of_ble_eq_true rfl) [(3, _), (2, _), (0, _), (1, _)] rfl ?_
        refine g_goto X 4 dX7_isClosed_41 (by decide) ?_
        refine g_L [2, 3, 1, 0] (L' := [(0, _), (1, _), (2, _), (3, _)]) rfl ?_
        exact ih (p + 1) (by omega) (by omega)
      · refine g_aload_n X dX7_isClosed_18 0 rfl ?_
        refine g_getfield X fl_X7_72 dX7_isClosed_19 (mLm D) rfl ?_
        refine g_bipush X (v := 6) dX7_isClosed_22 kb_6 ?_
        refine g_iload_n X dX7_isClosed_24 1 rfl ?_
        refine g_imul X dX7_isClosed_25 ?_
        refine g_iload_n X dX7_isClosed_26 3 rfl ?_
        refine g_iadd X dX7_isClosed_27 ?_
        refine g_eqi (y := nI (6 * a + p)) (ix6 a p) ?_
        refine g_iaload X dX7_isClosed_28 (mLa D 24 rfl) (vp_in_nI (by omega) (by decide)) ?_
        refine g_eqi (y := Ar 24 (6 * a + p)) (by rw [nI_clamp (by omega)]) ?_
        refine g_if_lt X 36 dX7_isClosed_29 (by decide) (fun c_29 => ?_) (fun c_29 => ?_)
        · have e1 : (0 : Int32) = b2 (clP Ar a (p + 1)) := (b2_f (fun q => absurd c_29 (ball_s.mp q).2)).symm
          refine g_iconst X (v := 0) dX7_isClosed_36 ki_0 ?_
          refine g_eqi (y := b2 (clP Ar a (p + 1))) e1 ?_
          refine g_istore_n X dX7_isClosed_37 (Nat.le_of_ble_eq_true rfl) [(2, _), (0, _), (1, _), (3, _)] rfl ?_
          refine g_iinc X (v := nI (p + 1)) dX7_isClosed_38 3 rfl (nI_1 p) (Nat.le_of_ble_eq_true rfl) [(3, _), (2, _), (0, _), (1, _)] rfl ?_
          refine g_goto X 4 dX7_isClosed_41 (by decide) ?_
          refine g_L [2, 3, 1, 0] (L' := [(0, _), (1, _), (2, _), (3, _)]) rfl ?_
          exact ih (p + 1) (by omega) (by omega)
        · have e1 : (1 : Int32) = b2 (clP Ar a (p + 1)) := (b2_t (ball_s.mpr ⟨Decidable.not_not.mp (fun q => c_15 (b2_0.mpr q)), c_29⟩)).symm
          refine g_iconst X (v := 1) dX7_isClosed_32 ki_1 ?_
          refine g_goto X 37 dX7_isClosed_33 (by decide) ?_
          refine g_eqi (y := b2 (clP Ar a (p + 1))) e1 ?_
          refine g_istore_n X dX7_isClosed_37 (Nat.le_of_ble_eq_true rfl) [(2, _), (0, _), (1, _), (3, _)] rfl ?_
          refine g_iinc X (v := nI (p + 1)) dX7_isClosed_38 3 rfl (nI_1 p) (Nat.le_of_ble_eq_true rfl) [(3, _), (2, _), (0, _), (1, _)] rfl ?_
          refine g_goto X 4 dX7_isClosed_41 (by decide) ?_
          refine g_L [2, 3, 1, 0] (L' := [(0, _), (1, _), (2, _), (3, _)]) rfl ?_
          exact ih (p + 1) (by omega) (by omega)
theorem c_X7_isClosed (D : md ix m ad) (a : Nat) (ha : a < 80) (hp : okN (Ar 15 a) 6) : Ct G l 0 0 0 M_X7_isClosed [.ref m, .int (nI a)] (mH G ix ad I Ar h0) (rX (some (.int (b2 (clP Ar a (cl (Ar 15 a)))))) (mH G ix ad I Ar h0)) := by
  refine Ct.of (by decide +kernel) (Nat.le_of_ble_eq_true rfl) (fun E hE X F => ?_)
  have X : Gc G E "ComplaintDeskModel" cX7_isClosed 4 0 0 0 := X
  show GW G E _ 4 0 [(0, _), (1, _)] [] _ 0 0
  refine g_iconst X (v := 1) dX7_isClosed_0 ki_1 ?_
  refine g_eqi (y := b2 (clP Ar a 0)) (b2_t (fun q hq => absurd hq (Nat.not_lt_zero _))).symm ?_
  refine g_istore_n X dX7_isClosed_1 (Nat.le_of_ble_eq_true rfl) [(2, _), (0, _), (1, _)] rfl ?_
  refine g_iconst X (v := 0) dX7_isClosed_2 ki_0 ?_
  refine g_istore_n X dX7_isClosed_3 (Nat.le_of_ble_eq_true rfl) [(3, _), (2, _), (0, _), (1, _)] rfl ?_
  refine g_L [2, 3, 1, 0] (L' := [(0, _), (1, _), (2, _), (3, _)]) rfl ?_
  exact lp_X7_isClosed_4 X F D a ha hp _ 0 (Nat.zero_le _) (Nat.lt_succ_self _)
end M4
end
