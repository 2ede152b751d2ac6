section
-- ===== PART A: goes FIRST, ahead of the names: the tables' words, and 'selects' of the private methods out of them =====
/-- a private method of a class that the tables say can be made, by its rows of tables_1 -/
def lw_okq (q : MethodName × Nat) : Prop := (q.1.cls ≠ "java/lang/invoke/MethodHandle" ∧ q.1.cls ≠ "java/lang/invoke/VarHandle") ∧ Cond.instantiable q.1.cls q.2 ∈ tables_1 ∧ Cond.privateMethod q.1 ∈ tables_1 ∧ Cond.instanceMethod q.1 ∈ tables_1
theorem lw_p0 : lw_okq (⟨"StrokesHeard$Night", "hearMinute", "(I)V"⟩, 14) := ⟨⟨by decide +kernel, by decide +kernel⟩, List.mem_of_getElem? (i := 29) (by decide +kernel), List.mem_of_getElem? (i := 438) (by decide +kernel), List.mem_of_getElem? (i := 439) (by decide +kernel)⟩
theorem lw_p1 : lw_okq (⟨"StrokesHeard$Guess", "addAt", "(II)V"⟩, 6) := ⟨⟨by decide +kernel, by decide +kernel⟩, List.mem_of_getElem? (i := 123) (by decide +kernel), List.mem_of_getElem? (i := 488) (by decide +kernel), List.mem_of_getElem? (i := 489) (by decide +kernel)⟩
theorem lw_p2 : lw_okq (⟨"StrokesHeard$Windows", "splitLeavesDoubt", "([II)Z"⟩, 6) := ⟨⟨by decide +kernel, by decide +kernel⟩, List.mem_of_getElem? (i := 153) (by decide +kernel), List.mem_of_getElem? (i := 539) (by decide +kernel), List.mem_of_getElem? (i := 540) (by decide +kernel)⟩
theorem lw_p3 : lw_okq (⟨"StrokesHeard$Windows", "partOf", "(III)I"⟩, 6) := ⟨⟨by decide +kernel, by decide +kernel⟩, List.mem_of_getElem? (i := 153) (by decide +kernel), List.mem_of_getElem? (i := 544) (by decide +kernel), List.mem_of_getElem? (i := 545) (by decide +kernel)⟩
theorem lw_p4 : lw_okq (⟨"StrokesHeard", "putBytes", "(I)V"⟩, 13) := ⟨⟨by decide +kernel, by decide +kernel⟩, List.mem_of_getElem? (i := 21) (by decide +kernel), List.mem_of_getElem? (i := 598) (by decide +kernel), List.mem_of_getElem? (i := 599) (by decide +kernel)⟩
theorem lw_p5 : lw_okq (⟨"StrokesHeard$TextReader", "advance", "()V"⟩, 9) := ⟨⟨by decide +kernel, by decide +kernel⟩, List.mem_of_getElem? (i := 178) (by decide +kernel), List.mem_of_getElem? (i := 615) (by decide +kernel), List.mem_of_getElem? (i := 616) (by decide +kernel)⟩
theorem lw_p6 : lw_okq (⟨"StrokesHeard$TextReader", "readKey", "()Z"⟩, 9) := ⟨⟨by decide +kernel, by decide +kernel⟩, List.mem_of_getElem? (i := 178) (by decide +kernel), List.mem_of_getElem? (i := 625) (by decide +kernel), List.mem_of_getElem? (i := 626) (by decide +kernel)⟩
theorem lw_p7 : lw_okq (⟨"StrokesHeard$TextReader", "isWord", "(Ljava/lang/String;)Z"⟩, 9) := ⟨⟨by decide +kernel, by decide +kernel⟩, List.mem_of_getElem? (i := 178) (by decide +kernel), List.mem_of_getElem? (i := 630) (by decide +kernel), List.mem_of_getElem? (i := 631) (by decide +kernel)⟩
theorem lw_p8 : lw_okq (⟨"StrokesHeard$TextReader", "readOr", "(II)Z"⟩, 9) := ⟨⟨by decide +kernel, by decide +kernel⟩, List.mem_of_getElem? (i := 178) (by decide +kernel), List.mem_of_getElem? (i := 684) (by decide +kernel), List.mem_of_getElem? (i := 685) (by decide +kernel)⟩
theorem lw_p9 : lw_okq (⟨"StrokesHeard$TextReader", "readAnd", "(II)Z"⟩, 9) := ⟨⟨by decide +kernel, by decide +kernel⟩, List.mem_of_getElem? (i := 178) (by decide +kernel), List.mem_of_getElem? (i := 688) (by decide +kernel), List.mem_of_getElem? (i := 689) (by decide +kernel)⟩
theorem lw_p10 : lw_okq (⟨"StrokesHeard$TextReader", "readTest", "(II)Z"⟩, 9) := ⟨⟨by decide +kernel, by decide +kernel⟩, List.mem_of_getElem? (i := 178) (by decide +kernel), List.mem_of_getElem? (i := 692) (by decide +kernel), List.mem_of_getElem? (i := 693) (by decide +kernel)⟩
theorem lw_p11 : lw_okq (⟨"StrokesHeard$TextReader", "readSum", "(II)Z"⟩, 9) := ⟨⟨by decide +kernel, by decide +kernel⟩, List.mem_of_getElem? (i := 178) (by decide +kernel), List.mem_of_getElem? (i := 696) (by decide +kernel), List.mem_of_getElem? (i := 697) (by decide +kernel)⟩
theorem lw_p12 : lw_okq (⟨"StrokesHeard$TextReader", "readTerm", "(II)Z"⟩, 9) := ⟨⟨by decide +kernel, by decide +kernel⟩, List.mem_of_getElem? (i := 178) (by decide +kernel), List.mem_of_getElem? (i := 700) (by decide +kernel), List.mem_of_getElem? (i := 701) (by decide +kernel)⟩
theorem lw_p13 : lw_okq (⟨"StrokesHeard$TextReader", "readPiece", "(II)Z"⟩, 9) := ⟨⟨by decide +kernel, by decide +kernel⟩, List.mem_of_getElem? (i := 178) (by decide +kernel), List.mem_of_getElem? (i := 704) (by decide +kernel), List.mem_of_getElem? (i := 705) (by decide +kernel)⟩
theorem lw_p14 : lw_okq (⟨"StrokesHeard$TextReader", "readNumber", "()Z"⟩, 9) := ⟨⟨by decide +kernel, by decide +kernel⟩, List.mem_of_getElem? (i := 178) (by decide +kernel), List.mem_of_getElem? (i := 708) (by decide +kernel), List.mem_of_getElem? (i := 709) (by decide +kernel)⟩
theorem lw_p15 : lw_okq (⟨"StrokesHeard$TextReader", "addStep", "(I)V"⟩, 9) := ⟨⟨by decide +kernel, by decide +kernel⟩, List.mem_of_getElem? (i := 178) (by decide +kernel), List.mem_of_getElem? (i := 712) (by decide +kernel), List.mem_of_getElem? (i := 713) (by decide +kernel)⟩
def lw_privs_1 : List (MethodName × Nat) := [(⟨"StrokesHeard$Night", "hearMinute", "(I)V"⟩, 14), (⟨"StrokesHeard$Guess", "addAt", "(II)V"⟩, 6), (⟨"StrokesHeard$Windows", "splitLeavesDoubt", "([II)Z"⟩, 6), (⟨"StrokesHeard$Windows", "partOf", "(III)I"⟩, 6), (⟨"StrokesHeard", "putBytes", "(I)V"⟩, 13), (⟨"StrokesHeard$TextReader", "advance", "()V"⟩, 9), (⟨"StrokesHeard$TextReader", "readKey", "()Z"⟩, 9), (⟨"StrokesHeard$TextReader", "isWord", "(Ljava/lang/String;)Z"⟩, 9), (⟨"StrokesHeard$TextReader", "readOr", "(II)Z"⟩, 9), (⟨"StrokesHeard$TextReader", "readAnd", "(II)Z"⟩, 9), (⟨"StrokesHeard$TextReader", "readTest", "(II)Z"⟩, 9), (⟨"StrokesHeard$TextReader", "readSum", "(II)Z"⟩, 9), (⟨"StrokesHeard$TextReader", "readTerm", "(II)Z"⟩, 9), (⟨"StrokesHeard$TextReader", "readPiece", "(II)Z"⟩, 9), (⟨"StrokesHeard$TextReader", "readNumber", "()Z"⟩, 9), (⟨"StrokesHeard$TextReader", "addStep", "(I)V"⟩, 9)]
theorem lw_r1 : ∀ q ∈ lw_privs_1, lw_okq q := List.forall_mem_cons.mpr ⟨lw_p0, List.forall_mem_cons.mpr ⟨lw_p1, List.forall_mem_cons.mpr ⟨lw_p2, List.forall_mem_cons.mpr ⟨lw_p3, List.forall_mem_cons.mpr ⟨lw_p4, List.forall_mem_cons.mpr ⟨lw_p5, List.forall_mem_cons.mpr ⟨lw_p6, List.forall_mem_cons.mpr ⟨lw_p7, List.forall_mem_cons.mpr ⟨lw_p8, List.forall_mem_cons.mpr ⟨lw_p9, List.forall_mem_cons.mpr ⟨lw_p10, List.forall_mem_cons.mpr ⟨lw_p11, List.forall_mem_cons.mpr ⟨lw_p12, List.forall_mem_cons.mpr ⟨lw_p13, List.forall_mem_cons.mpr ⟨lw_p14, List.forall_mem_cons.mpr ⟨lw_p15, fun _ h => absurd h List.not_mem_nil⟩⟩⟩⟩⟩⟩⟩⟩⟩⟩⟩⟩⟩⟩⟩⟩
theorem lw_p16 : lw_okq (⟨"StrokesHeard$TextReader", "readName", "()Z"⟩, 9) := ⟨⟨by decide +kernel, by decide +kernel⟩, List.mem_of_getElem? (i := 178) (by decide +kernel), List.mem_of_getElem? (i := 716) (by decide +kernel), List.mem_of_getElem? (i := 717) (by decide +kernel)⟩
theorem lw_p17 : lw_okq (⟨"StrokesHeard$TextReader", "isSign", "(C)Z"⟩, 9) := ⟨⟨by decide +kernel, by decide +kernel⟩, List.mem_of_getElem? (i := 178) (by decide +kernel), List.mem_of_getElem? (i := 778) (by decide +kernel), List.mem_of_getElem? (i := 779) (by decide +kernel)⟩
theorem lw_p18 : lw_okq (⟨"StrokesHeard$TextReader", "signAmong", "(Ljava/lang/String;)I"⟩, 9) := ⟨⟨by decide +kernel, by decide +kernel⟩, List.mem_of_getElem? (i := 178) (by decide +kernel), List.mem_of_getElem? (i := 783) (by decide +kernel), List.mem_of_getElem? (i := 784) (by decide +kernel)⟩
theorem lw_p19 : lw_okq (⟨"StrokesHeardModel", "comes", "(III)V"⟩, 32) := ⟨⟨by decide +kernel, by decide +kernel⟩, List.mem_of_getElem? (i := 920) (by decide +kernel), List.mem_of_getElem? (i := 1035) (by decide +kernel), List.mem_of_getElem? (i := 1036) (by decide +kernel)⟩
theorem lw_p20 : lw_okq (⟨"StrokesHeardModel", "sets", "(III)V"⟩, 32) := ⟨⟨by decide +kernel, by decide +kernel⟩, List.mem_of_getElem? (i := 920) (by decide +kernel), List.mem_of_getElem? (i := 1039) (by decide +kernel), List.mem_of_getElem? (i := 1040) (by decide +kernel)⟩
theorem lw_p21 : lw_okq (⟨"StrokesHeardModel", "isClock", "(I)Z"⟩, 32) := ⟨⟨by decide +kernel, by decide +kernel⟩, List.mem_of_getElem? (i := 920) (by decide +kernel), List.mem_of_getElem? (i := 1047) (by decide +kernel), List.mem_of_getElem? (i := 1048) (by decide +kernel)⟩
theorem lw_p22 : lw_okq (⟨"StrokesHeardModel", "of", "(II)I"⟩, 32) := ⟨⟨by decide +kernel, by decide +kernel⟩, List.mem_of_getElem? (i := 920) (by decide +kernel), List.mem_of_getElem? (i := 1051) (by decide +kernel), List.mem_of_getElem? (i := 1052) (by decide +kernel)⟩
theorem lw_p23 : lw_okq (⟨"StrokesHeardModel", "timeNow", "()I"⟩, 32) := ⟨⟨by decide +kernel, by decide +kernel⟩, List.mem_of_getElem? (i := 920) (by decide +kernel), List.mem_of_getElem? (i := 1055) (by decide +kernel), List.mem_of_getElem? (i := 1056) (by decide +kernel)⟩
theorem lw_p24 : lw_okq (⟨"StrokesHeardModel", "strikes", "(II)I"⟩, 32) := ⟨⟨by decide +kernel, by decide +kernel⟩, List.mem_of_getElem? (i := 920) (by decide +kernel), List.mem_of_getElem? (i := 1059) (by decide +kernel), List.mem_of_getElem? (i := 1060) (by decide +kernel)⟩
theorem lw_p25 : lw_okq (⟨"StrokesHeardModel", "atHour", "(II)I"⟩, 32) := ⟨⟨by decide +kernel, by decide +kernel⟩, List.mem_of_getElem? (i := 920) (by decide +kernel), List.mem_of_getElem? (i := 1063) (by decide +kernel), List.mem_of_getElem? (i := 1064) (by decide +kernel)⟩
theorem lw_p26 : lw_okq (⟨"StrokesHeardModel", "again", "(II)I"⟩, 32) := ⟨⟨by decide +kernel, by decide +kernel⟩, List.mem_of_getElem? (i := 920) (by decide +kernel), List.mem_of_getElem? (i := 1067) (by decide +kernel), List.mem_of_getElem? (i := 1068) (by decide +kernel)⟩
theorem lw_p27 : lw_okq (⟨"StrokesHeardModel", "counts", "(I)I"⟩, 32) := ⟨⟨by decide +kernel, by decide +kernel⟩, List.mem_of_getElem? (i := 920) (by decide +kernel), List.mem_of_getElem? (i := 1071) (by decide +kernel), List.mem_of_getElem? (i := 1072) (by decide +kernel)⟩
theorem lw_p28 : lw_okq (⟨"StrokesHeardModel", "textAt", "(I)I"⟩, 32) := ⟨⟨by decide +kernel, by decide +kernel⟩, List.mem_of_getElem? (i := 920) (by decide +kernel), List.mem_of_getElem? (i := 1075) (by decide +kernel), List.mem_of_getElem? (i := 1076) (by decide +kernel)⟩
theorem lw_p29 : lw_okq (⟨"StrokesHeardModel", "worked", "(I)I"⟩, 32) := ⟨⟨by decide +kernel, by decide +kernel⟩, List.mem_of_getElem? (i := 920) (by decide +kernel), List.mem_of_getElem? (i := 1079) (by decide +kernel), List.mem_of_getElem? (i := 1080) (by decide +kernel)⟩
theorem lw_p30 : lw_okq (⟨"StrokesHeardModel", "worth", "(I)I"⟩, 32) := ⟨⟨by decide +kernel, by decide +kernel⟩, List.mem_of_getElem? (i := 920) (by decide +kernel), List.mem_of_getElem? (i := 1086) (by decide +kernel), List.mem_of_getElem? (i := 1087) (by decide +kernel)⟩
theorem lw_p31 : lw_okq (⟨"StrokesHeardModel", "becomes", "(II)I"⟩, 32) := ⟨⟨by decide +kernel, by decide +kernel⟩, List.mem_of_getElem? (i := 920) (by decide +kernel), List.mem_of_getElem? (i := 1102) (by decide +kernel), List.mem_of_getElem? (i := 1103) (by decide +kernel)⟩
def lw_privs_2 : List (MethodName × Nat) := [(⟨"StrokesHeard$TextReader", "readName", "()Z"⟩, 9), (⟨"StrokesHeard$TextReader", "isSign", "(C)Z"⟩, 9), (⟨"StrokesHeard$TextReader", "signAmong", "(Ljava/lang/String;)I"⟩, 9), (⟨"StrokesHeardModel", "comes", "(III)V"⟩, 32), (⟨"StrokesHeardModel", "sets", "(III)V"⟩, 32), (⟨"StrokesHeardModel", "isClock", "(I)Z"⟩, 32), (⟨"StrokesHeardModel", "of", "(II)I"⟩, 32), (⟨"StrokesHeardModel", "timeNow", "()I"⟩, 32), (⟨"StrokesHeardModel", "strikes", "(II)I"⟩, 32), (⟨"StrokesHeardModel", "atHour", "(II)I"⟩, 32), (⟨"StrokesHeardModel", "again", "(II)I"⟩, 32), (⟨"StrokesHeardModel", "counts", "(I)I"⟩, 32), (⟨"StrokesHeardModel", "textAt", "(I)I"⟩, 32), (⟨"StrokesHeardModel", "worked", "(I)I"⟩, 32), (⟨"StrokesHeardModel", "worth", "(I)I"⟩, 32), (⟨"StrokesHeardModel", "becomes", "(II)I"⟩, 32)]
theorem lw_r2 : ∀ q ∈ lw_privs_2, lw_okq q := List.forall_mem_cons.mpr ⟨lw_p16, List.forall_mem_cons.mpr ⟨lw_p17, List.forall_mem_cons.mpr ⟨lw_p18, List.forall_mem_cons.mpr ⟨lw_p19, List.forall_mem_cons.mpr ⟨lw_p20, List.forall_mem_cons.mpr ⟨lw_p21, List.forall_mem_cons.mpr ⟨lw_p22, List.forall_mem_cons.mpr ⟨lw_p23, List.forall_mem_cons.mpr ⟨lw_p24, List.forall_mem_cons.mpr ⟨lw_p25, List.forall_mem_cons.mpr ⟨lw_p26, List.forall_mem_cons.mpr ⟨lw_p27, List.forall_mem_cons.mpr ⟨lw_p28, List.forall_mem_cons.mpr ⟨lw_p29, List.forall_mem_cons.mpr ⟨lw_p30, List.forall_mem_cons.mpr ⟨lw_p31, fun _ h => absurd h List.not_mem_nil⟩⟩⟩⟩⟩⟩⟩⟩⟩⟩⟩⟩⟩⟩⟩⟩
theorem lw_p32 : lw_okq (⟨"StrokesHeardModel", "totalAt", "(I)I"⟩, 32) := ⟨⟨by decide +kernel, by decide +kernel⟩, List.mem_of_getElem? (i := 920) (by decide +kernel), List.mem_of_getElem? (i := 1123) (by decide +kernel), List.mem_of_getElem? (i := 1124) (by decide +kernel)⟩
theorem lw_p33 : lw_okq (⟨"StrokesHeardModel", "drawn", "()I"⟩, 32) := ⟨⟨by decide +kernel, by decide +kernel⟩, List.mem_of_getElem? (i := 920) (by decide +kernel), List.mem_of_getElem? (i := 1137) (by decide +kernel), List.mem_of_getElem? (i := 1138) (by decide +kernel)⟩
theorem lw_p34 : lw_okq (⟨"StrokesHeardModel", "goesOnMany", "(I)V"⟩, 32) := ⟨⟨by decide +kernel, by decide +kernel⟩, List.mem_of_getElem? (i := 920) (by decide +kernel), List.mem_of_getElem? (i := 1150) (by decide +kernel), List.mem_of_getElem? (i := 1151) (by decide +kernel)⟩
theorem lw_p35 : lw_okq (⟨"StrokesHeardModel", "goesOn", "()V"⟩, 32) := ⟨⟨by decide +kernel, by decide +kernel⟩, List.mem_of_getElem? (i := 920) (by decide +kernel), List.mem_of_getElem? (i := 1154) (by decide +kernel), List.mem_of_getElem? (i := 1155) (by decide +kernel)⟩
theorem lw_p36 : lw_okq (⟨"StrokesHeardModel", "findAll", "()V"⟩, 32) := ⟨⟨by decide +kernel, by decide +kernel⟩, List.mem_of_getElem? (i := 920) (by decide +kernel), List.mem_of_getElem? (i := 1173) (by decide +kernel), List.mem_of_getElem? (i := 1174) (by decide +kernel)⟩
theorem lw_p37 : lw_okq (⟨"StrokesHeardModel", "doesFit", "(I)Z"⟩, 32) := ⟨⟨by decide +kernel, by decide +kernel⟩, List.mem_of_getElem? (i := 920) (by decide +kernel), List.mem_of_getElem? (i := 1177) (by decide +kernel), List.mem_of_getElem? (i := 1178) (by decide +kernel)⟩
theorem lw_p38 : lw_okq (⟨"StrokesHeardModel", "manyFit", "()I"⟩, 32) := ⟨⟨by decide +kernel, by decide +kernel⟩, List.mem_of_getElem? (i := 920) (by decide +kernel), List.mem_of_getElem? (i := 1185) (by decide +kernel), List.mem_of_getElem? (i := 1186) (by decide +kernel)⟩
theorem lw_p39 : lw_okq (⟨"StrokesHeardModel", "hoursFit", "()I"⟩, 32) := ⟨⟨by decide +kernel, by decide +kernel⟩, List.mem_of_getElem? (i := 920) (by decide +kernel), List.mem_of_getElem? (i := 1189) (by decide +kernel), List.mem_of_getElem? (i := 1190) (by decide +kernel)⟩
theorem lw_p40 : lw_okq (⟨"StrokesHeardModel", "isSure", "()Z"⟩, 32) := ⟨⟨by decide +kernel, by decide +kernel⟩, List.mem_of_getElem? (i := 920) (by decide +kernel), List.mem_of_getElem? (i := 1193) (by decide +kernel), List.mem_of_getElem? (i := 1194) (by decide +kernel)⟩
theorem lw_p41 : lw_okq (⟨"StrokesHeardModel", "findMore", "(II)V"⟩, 32) := ⟨⟨by decide +kernel, by decide +kernel⟩, List.mem_of_getElem? (i := 920) (by decide +kernel), List.mem_of_getElem? (i := 1209) (by decide +kernel), List.mem_of_getElem? (i := 1210) (by decide +kernel)⟩
theorem lw_p42 : lw_okq (⟨"StrokesHeardModel", "offBy", "(II)I"⟩, 32) := ⟨⟨by decide +kernel, by decide +kernel⟩, List.mem_of_getElem? (i := 920) (by decide +kernel), List.mem_of_getElem? (i := 1229) (by decide +kernel), List.mem_of_getElem? (i := 1230) (by decide +kernel)⟩
theorem lw_p43 : lw_okq (⟨"StrokesHeardModel", "laysBy", "()V"⟩, 32) := ⟨⟨by decide +kernel, by decide +kernel⟩, List.mem_of_getElem? (i := 920) (by decide +kernel), List.mem_of_getElem? (i := 1240) (by decide +kernel), List.mem_of_getElem? (i := 1241) (by decide +kernel)⟩
theorem lw_p44 : lw_okq (⟨"StrokesHeardModel", "laysBack", "()V"⟩, 32) := ⟨⟨by decide +kernel, by decide +kernel⟩, List.mem_of_getElem? (i := 920) (by decide +kernel), List.mem_of_getElem? (i := 1244) (by decide +kernel), List.mem_of_getElem? (i := 1245) (by decide +kernel)⟩
theorem lw_p45 : lw_okq (⟨"StrokesHeardModel", "parse", "()I"⟩, 32) := ⟨⟨by decide +kernel, by decide +kernel⟩, List.mem_of_getElem? (i := 920) (by decide +kernel), List.mem_of_getElem? (i := 1272) (by decide +kernel), List.mem_of_getElem? (i := 1273) (by decide +kernel)⟩
theorem lw_p46 : lw_okq (⟨"StrokesHeardModel", "nextToken", "()V"⟩, 32) := ⟨⟨by decide +kernel, by decide +kernel⟩, List.mem_of_getElem? (i := 920) (by decide +kernel), List.mem_of_getElem? (i := 1276) (by decide +kernel), List.mem_of_getElem? (i := 1277) (by decide +kernel)⟩
theorem lw_p47 : lw_okq (⟨"StrokesHeardModel", "isLetter", "(I)Z"⟩, 32) := ⟨⟨by decide +kernel, by decide +kernel⟩, List.mem_of_getElem? (i := 920) (by decide +kernel), List.mem_of_getElem? (i := 1280) (by decide +kernel), List.mem_of_getElem? (i := 1281) (by decide +kernel)⟩
def lw_privs_3 : List (MethodName × Nat) := [(⟨"StrokesHeardModel", "totalAt", "(I)I"⟩, 32), (⟨"StrokesHeardModel", "drawn", "()I"⟩, 32), (⟨"StrokesHeardModel", "goesOnMany", "(I)V"⟩, 32), (⟨"StrokesHeardModel", "goesOn", "()V"⟩, 32), (⟨"StrokesHeardModel", "findAll", "()V"⟩, 32), (⟨"StrokesHeardModel", "doesFit", "(I)Z"⟩, 32), (⟨"StrokesHeardModel", "manyFit", "()I"⟩, 32), (⟨"StrokesHeardModel", "hoursFit", "()I"⟩, 32), (⟨"StrokesHeardModel", "isSure", "()Z"⟩, 32), (⟨"StrokesHeardModel", "findMore", "(II)V"⟩, 32), (⟨"StrokesHeardModel", "offBy", "(II)I"⟩, 32), (⟨"StrokesHeardModel", "laysBy", "()V"⟩, 32), (⟨"StrokesHeardModel", "laysBack", "()V"⟩, 32), (⟨"StrokesHeardModel", "parse", "()I"⟩, 32), (⟨"StrokesHeardModel", "nextToken", "()V"⟩, 32), (⟨"StrokesHeardModel", "isLetter", "(I)Z"⟩, 32)]
theorem lw_r3 : ∀ q ∈ lw_privs_3, lw_okq q := List.forall_mem_cons.mpr ⟨lw_p32, List.forall_mem_cons.mpr ⟨lw_p33, List.forall_mem_cons.mpr ⟨lw_p34, List.forall_mem_cons.mpr ⟨lw_p35, List.forall_mem_cons.mpr ⟨lw_p36, List.forall_mem_cons.mpr ⟨lw_p37, List.forall_mem_cons.mpr ⟨lw_p38, List.forall_mem_cons.mpr ⟨lw_p39, List.forall_mem_cons.mpr ⟨lw_p40, List.forall_mem_cons.mpr ⟨lw_p41, List.forall_mem_cons.mpr ⟨lw_p42, List.forall_mem_cons.mpr ⟨lw_p43, List.forall_mem_cons.mpr ⟨lw_p44, List.forall_mem_cons.mpr ⟨lw_p45, List.forall_mem_cons.mpr ⟨lw_p46, List.forall_mem_cons.mpr ⟨lw_p47, fun _ h => absurd h List.not_mem_nil⟩⟩⟩⟩⟩⟩⟩⟩⟩⟩⟩⟩⟩⟩⟩⟩
theorem lw_p48 : lw_okq (⟨"StrokesHeardModel", "isDigit", "(I)Z"⟩, 32) := ⟨⟨by decide +kernel, by decide +kernel⟩, List.mem_of_getElem? (i := 920) (by decide +kernel), List.mem_of_getElem? (i := 1286) (by decide +kernel), List.mem_of_getElem? (i := 1287) (by decide +kernel)⟩
theorem lw_p49 : lw_okq (⟨"StrokesHeardModel", "key", "()I"⟩, 32) := ⟨⟨by decide +kernel, by decide +kernel⟩, List.mem_of_getElem? (i := 920) (by decide +kernel), List.mem_of_getElem? (i := 1292) (by decide +kernel), List.mem_of_getElem? (i := 1293) (by decide +kernel)⟩
theorem lw_p50 : lw_okq (⟨"StrokesHeardModel", "isLong", "(IIIIII)Z"⟩, 32) := ⟨⟨by decide +kernel, by decide +kernel⟩, List.mem_of_getElem? (i := 920) (by decide +kernel), List.mem_of_getElem? (i := 1296) (by decide +kernel), List.mem_of_getElem? (i := 1297) (by decide +kernel)⟩
theorem lw_p51 : lw_okq (⟨"StrokesHeardModel", "isWordAt", "(IIII)Z"⟩, 32) := ⟨⟨by decide +kernel, by decide +kernel⟩, List.mem_of_getElem? (i := 920) (by decide +kernel), List.mem_of_getElem? (i := 1300) (by decide +kernel), List.mem_of_getElem? (i := 1301) (by decide +kernel)⟩
theorem lw_p52 : lw_okq (⟨"StrokesHeardModel", "either", "(I)Z"⟩, 32) := ⟨⟨by decide +kernel, by decide +kernel⟩, List.mem_of_getElem? (i := 920) (by decide +kernel), List.mem_of_getElem? (i := 1304) (by decide +kernel), List.mem_of_getElem? (i := 1305) (by decide +kernel)⟩
theorem lw_p53 : lw_okq (⟨"StrokesHeardModel", "both", "(I)Z"⟩, 32) := ⟨⟨by decide +kernel, by decide +kernel⟩, List.mem_of_getElem? (i := 920) (by decide +kernel), List.mem_of_getElem? (i := 1308) (by decide +kernel), List.mem_of_getElem? (i := 1309) (by decide +kernel)⟩
theorem lw_p54 : lw_okq (⟨"StrokesHeardModel", "test", "(I)Z"⟩, 32) := ⟨⟨by decide +kernel, by decide +kernel⟩, List.mem_of_getElem? (i := 920) (by decide +kernel), List.mem_of_getElem? (i := 1312) (by decide +kernel), List.mem_of_getElem? (i := 1313) (by decide +kernel)⟩
theorem lw_p55 : lw_okq (⟨"StrokesHeardModel", "sum", "(I)Z"⟩, 32) := ⟨⟨by decide +kernel, by decide +kernel⟩, List.mem_of_getElem? (i := 920) (by decide +kernel), List.mem_of_getElem? (i := 1316) (by decide +kernel), List.mem_of_getElem? (i := 1317) (by decide +kernel)⟩
theorem lw_p56 : lw_okq (⟨"StrokesHeardModel", "term", "(I)Z"⟩, 32) := ⟨⟨by decide +kernel, by decide +kernel⟩, List.mem_of_getElem? (i := 920) (by decide +kernel), List.mem_of_getElem? (i := 1320) (by decide +kernel), List.mem_of_getElem? (i := 1321) (by decide +kernel)⟩
theorem lw_p57 : lw_okq (⟨"StrokesHeardModel", "part0", "(I)Z"⟩, 32) := ⟨⟨by decide +kernel, by decide +kernel⟩, List.mem_of_getElem? (i := 920) (by decide +kernel), List.mem_of_getElem? (i := 1324) (by decide +kernel), List.mem_of_getElem? (i := 1325) (by decide +kernel)⟩
theorem lw_p58 : lw_okq (⟨"StrokesHeardModel", "step", "(II)V"⟩, 32) := ⟨⟨by decide +kernel, by decide +kernel⟩, List.mem_of_getElem? (i := 920) (by decide +kernel), List.mem_of_getElem? (i := 1328) (by decide +kernel), List.mem_of_getElem? (i := 1329) (by decide +kernel)⟩
theorem lw_p59 : lw_okq (⟨"StrokesHeardModel", "isSign", "(I)Z"⟩, 32) := ⟨⟨by decide +kernel, by decide +kernel⟩, List.mem_of_getElem? (i := 920) (by decide +kernel), List.mem_of_getElem? (i := 1335) (by decide +kernel), List.mem_of_getElem? (i := 1336) (by decide +kernel)⟩
theorem lw_p60 : lw_okq (⟨"StrokesHeardModel", "isText", "(I)Z"⟩, 32) := ⟨⟨by decide +kernel, by decide +kernel⟩, List.mem_of_getElem? (i := 920) (by decide +kernel), List.mem_of_getElem? (i := 1343) (by decide +kernel), List.mem_of_getElem? (i := 1344) (by decide +kernel)⟩
theorem lw_p61 : lw_okq (⟨"StrokesHeardModel", "setAside", "([I[I)V"⟩, 32) := ⟨⟨by decide +kernel, by decide +kernel⟩, List.mem_of_getElem? (i := 920) (by decide +kernel), List.mem_of_getElem? (i := 1412) (by decide +kernel), List.mem_of_getElem? (i := 1413) (by decide +kernel)⟩
def lw_privs_4 : List (MethodName × Nat) := [(⟨"StrokesHeardModel", "isDigit", "(I)Z"⟩, 32), (⟨"StrokesHeardModel", "key", "()I"⟩, 32), (⟨"StrokesHeardModel", "isLong", "(IIIIII)Z"⟩, 32), (⟨"StrokesHeardModel", "isWordAt", "(IIII)Z"⟩, 32), (⟨"StrokesHeardModel", "either", "(I)Z"⟩, 32), (⟨"StrokesHeardModel", "both", "(I)Z"⟩, 32), (⟨"StrokesHeardModel", "test", "(I)Z"⟩, 32), (⟨"StrokesHeardModel", "sum", "(I)Z"⟩, 32), (⟨"StrokesHeardModel", "term", "(I)Z"⟩, 32), (⟨"StrokesHeardModel", "part0", "(I)Z"⟩, 32), (⟨"StrokesHeardModel", "step", "(II)V"⟩, 32), (⟨"StrokesHeardModel", "isSign", "(I)Z"⟩, 32), (⟨"StrokesHeardModel", "isText", "(I)Z"⟩, 32), (⟨"StrokesHeardModel", "setAside", "([I[I)V"⟩, 32)]
theorem lw_r4 : ∀ q ∈ lw_privs_4, lw_okq q := List.forall_mem_cons.mpr ⟨lw_p48, List.forall_mem_cons.mpr ⟨lw_p49, List.forall_mem_cons.mpr ⟨lw_p50, List.forall_mem_cons.mpr ⟨lw_p51, List.forall_mem_cons.mpr ⟨lw_p52, List.forall_mem_cons.mpr ⟨lw_p53, List.forall_mem_cons.mpr ⟨lw_p54, List.forall_mem_cons.mpr ⟨lw_p55, List.forall_mem_cons.mpr ⟨lw_p56, List.forall_mem_cons.mpr ⟨lw_p57, List.forall_mem_cons.mpr ⟨lw_p58, List.forall_mem_cons.mpr ⟨lw_p59, List.forall_mem_cons.mpr ⟨lw_p60, List.forall_mem_cons.mpr ⟨lw_p61, fun _ h => absurd h List.not_mem_nil⟩⟩⟩⟩⟩⟩⟩⟩⟩⟩⟩⟩⟩⟩
def lw_privs : List (MethodName × Nat) := lw_privs_1 ++ (lw_privs_2 ++ (lw_privs_3 ++ (lw_privs_4)))
def lw_tbl : List Cond := k2_sels lw_privs ++ tables_1
theorem lw_privs_ok : ∀ q ∈ lw_privs, lw_okq q := by
  show ∀ q ∈ lw_privs_1 ++ (lw_privs_2 ++ (lw_privs_3 ++ (lw_privs_4))), lw_okq q
  exact List.forall_mem_append.mpr ⟨lw_r1, List.forall_mem_append.mpr ⟨lw_r2, List.forall_mem_append.mpr ⟨lw_r3, lw_r4⟩⟩⟩
end
section
def RX0 : String := "StrokesHeard$Clock"
def TX0 : u_T := fun k => match k with
  | 0 => ("StrokesHeard$Clock", "kind", "I", false)
  | 1 => ("StrokesHeard$Clock", "off", "I", false)
  | _ => ("StrokesHeard$Clock", "tone", "I", false)
def tyX0 : Nat → FieldType := fun k => match k with
  | 0 => .int
  | 1 => .int
  | _ => .int
theorem nmX0 : ∀ a, a < 3 → ∀ b, b < 3 → a ≠ b → (TX0 a).2.1 ≠ (TX0 b).2.1 := by decide +kernel
theorem tyX0_ok : ∀ k, k < 3 → parseFieldDescriptor (TX0 k).2.2.1 = some (tyX0 k) := by decide +kernel
abbrev cX0_init : ByteArray := prog_2_method_1_code
def yX0_init : MethodName := ⟨RX0, "<init>", "()V"⟩
abbrev cX0_take : ByteArray := prog_2_method_2_code
def yX0_take : MethodName := ⟨RX0, "take", "(LStrokesHeard$Clock;)V"⟩
abbrev cX0_worth : ByteArray := prog_2_method_3_code
def yX0_worth : MethodName := ⟨RX0, "worth", "()I"⟩
def RX1 : String := "StrokesHeard$Guess"
def TX1 : u_T := fun k => match k with
  | 0 => ("StrokesHeard$Guess", "totals", "[I", true)
  | 1 => ("StrokesHeard$Guess", "allowed", "[I", true)
  | 2 => ("StrokesHeard$Guess", "noteCount", "I", false)
  | 3 => ("StrokesHeard$Guess", "found", "I", false)
  | 4 => ("StrokesHeard$Guess", "hours", "I", false)
  | _ => ("StrokesHeard$Guess", "first", "I", false)
def tyX1 : Nat → FieldType := fun k => match k with
  | 0 => .array .int
  | 1 => .array .int
  | 2 => .int
  | 3 => .int
  | 4 => .int
  | _ => .int
theorem nmX1 : ∀ a, a < 6 → ∀ b, b < 6 → a ≠ b → (TX1 a).2.1 ≠ (TX1 b).2.1 := by decide +kernel
theorem tyX1_ok : ∀ k, k < 6 → parseFieldDescriptor (TX1 k).2.2.1 = some (tyX1 k) := by decide +kernel
abbrev cX1_init : ByteArray := prog_3_method_1_code
def yX1_init : MethodName := ⟨RX1, "<init>", "()V"⟩
abbrev cX1_useClocks : ByteArray := prog_3_method_2_code
def yX1_useClocks : MethodName := ⟨RX1, "useClocks", "(LStrokesHeard$Night;)V"⟩
abbrev cX1_addStrokes : ByteArray := prog_3_method_3_code
def yX1_addStrokes : MethodName := ⟨RX1, "addStrokes", "(LStrokesHeard$Night;LStrokesHeard$Clock;II)V"⟩
abbrev cX1_addAt : ByteArray := prog_3_method_4_code
def yX1_addAt : MethodName := ⟨RX1, "addAt", "(II)V"⟩
abbrev cX1_useNotes : ByteArray := prog_3_method_5_code
def yX1_useNotes : MethodName := ⟨RX1, "useNotes", "(LStrokesHeard$Night;)V"⟩
abbrev cX1_findTimes : ByteArray := prog_3_method_6_code
def yX1_findTimes : MethodName := ⟨RX1, "findTimes", "()V"⟩
abbrev cX1_isSure : ByteArray := prog_3_method_7_code
def yX1_isSure : MethodName := ⟨RX1, "isSure", "()Z"⟩
abbrev cX1_difference : ByteArray := prog_3_method_8_code
def yX1_difference : MethodName := ⟨RX1, "difference", "(LStrokesHeard$Sheet;I)I"⟩
def RX2 : String := "StrokesHeard$Night"
def TX2 : u_T := fun k => match k with
  | 0 => ("StrokesHeard$Night", "clocks", "[LStrokesHeard$Clock;", true)
  | 1 => ("StrokesHeard$Night", "clockCount", "I", false)
  | 2 => ("StrokesHeard$Night", "ear", "I", false)
  | 3 => ("StrokesHeard$Night", "noise", "I", false)
  | 4 => ("StrokesHeard$Night", "heard", "I", false)
  | 5 => ("StrokesHeard$Night", "missed", "I", false)
  | 6 => ("StrokesHeard$Night", "mistaken", "I", false)
  | 7 => ("StrokesHeard$Night", "minute", "I", false)
  | 8 => ("StrokesHeard$Night", "z", "I", false)
  | 9 => ("StrokesHeard$Night", "notes", "[I", true)
  | 10 => ("StrokesHeard$Night", "noteCount", "I", false)
  | 11 => ("StrokesHeard$Night", "texts", "[LStrokesHeard$Text;", true)
  | 12 => ("StrokesHeard$Night", "textCount", "I", false)
  | _ => ("StrokesHeard$Night", "lawNumbers", "[I", true)
def tyX2 : Nat → FieldType := fun k => match k with
  | 0 => .array (.object "StrokesHeard$Clock")
  | 1 => .int
  | 2 => .int
  | 3 => .int
  | 4 => .int
  | 5 => .int
  | 6 => .int
  | 7 => .int
  | 8 => .int
  | 9 => .array .int
  | 10 => .int
  | 11 => .array (.object "StrokesHeard$Text")
  | 12 => .int
  | _ => .array .int
theorem nmX2 : ∀ a, a < 14 → ∀ b, b < 14 → a ≠ b → (TX2 a).2.1 ≠ (TX2 b).2.1 := by decide +kernel
theorem tyX2_ok : ∀ k, k < 14 → parseFieldDescriptor (TX2 k).2.2.1 = some (tyX2 k) := by decide +kernel
abbrev cX2_init : ByteArray := prog_4_method_1_code
def yX2_init : MethodName := ⟨RX2, "<init>", "()V"⟩
abbrev cX2_take : ByteArray := prog_4_method_2_code
def yX2_take : MethodName := ⟨RX2, "take", "(LStrokesHeard$Night;)V"⟩
abbrev cX2_hasClock : ByteArray := prog_4_method_3_code
def yX2_hasClock : MethodName := ⟨RX2, "hasClock", "(I)Z"⟩
abbrev cX2_addClock : ByteArray := prog_4_method_4_code
def yX2_addClock : MethodName := ⟨RX2, "addClock", "(III)V"⟩
abbrev cX2_draw : ByteArray := prog_4_method_5_code
def yX2_draw : MethodName := ⟨RX2, "draw", "()I"⟩
abbrev cX2_timeNow : ByteArray := prog_4_method_6_code
def yX2_timeNow : MethodName := ⟨RX2, "timeNow", "()I"⟩
abbrev cX2_bedCount : ByteArray := prog_4_method_7_code
def yX2_bedCount : MethodName := ⟨RX2, "bedCount", "(I)I"⟩
abbrev cX2_textAt : ByteArray := prog_4_method_8_code
def yX2_textAt : MethodName := ⟨RX2, "textAt", "(I)LStrokesHeard$Text;"⟩
abbrev cX2_law : ByteArray := prog_4_method_9_code
def yX2_law : MethodName := ⟨RX2, "law", "(I)LStrokesHeard$Text;"⟩
abbrev cX2_addText : ByteArray := prog_4_method_10_code
def yX2_addText : MethodName := ⟨RX2, "addText", "(LStrokesHeard$Text;)V"⟩
abbrev cX2_againMinute : ByteArray := prog_4_method_11_code
def yX2_againMinute : MethodName := ⟨RX2, "againMinute", "(LStrokesHeard$Clock;II)I"⟩
abbrev cX2_strokesAt : ByteArray := prog_4_method_12_code
def yX2_strokesAt : MethodName := ⟨RX2, "strokesAt", "(LStrokesHeard$Clock;I)I"⟩
abbrev cX2_strokesOfAllTimes : ByteArray := prog_4_method_13_code
def yX2_strokesOfAllTimes : MethodName := ⟨RX2, "strokesOfAllTimes", "(LStrokesHeard$Clock;)I"⟩
abbrev cX2_totalAt : ByteArray := prog_4_method_14_code
def yX2_totalAt : MethodName := ⟨RX2, "totalAt", "(I)I"⟩
abbrev cX2_passMinutes : ByteArray := prog_4_method_15_code
def yX2_passMinutes : MethodName := ⟨RX2, "passMinutes", "(I)V"⟩
abbrev cX2_hearMinute : ByteArray := prog_4_method_16_code
def yX2_hearMinute : MethodName := ⟨RX2, "hearMinute", "(I)V"⟩
abbrev cX2_allows : ByteArray := prog_4_method_17_code
def yX2_allows : MethodName := ⟨RX2, "allows", "(II)Z"⟩
def RX3 : String := "StrokesHeard$Sheet"
def TX3 : u_T := fun k => match k with
  | 0 => ("StrokesHeard$Sheet", "sort", "I", false)
  | 1 => ("StrokesHeard$Sheet", "size", "I", false)
  | _ => ("StrokesHeard$Sheet", "places", "[I", true)
def tyX3 : Nat → FieldType := fun k => match k with
  | 0 => .int
  | 1 => .int
  | _ => .array .int
theorem nmX3 : ∀ a, a < 3 → ∀ b, b < 3 → a ≠ b → (TX3 a).2.1 ≠ (TX3 b).2.1 := by decide +kernel
theorem tyX3_ok : ∀ k, k < 3 → parseFieldDescriptor (TX3 k).2.2.1 = some (tyX3 k) := by decide +kernel
abbrev cX3_init : ByteArray := prog_5_method_1_code
def yX3_init : MethodName := ⟨RX3, "<init>", "()V"⟩
abbrev cX3_become : ByteArray := prog_5_method_2_code
def yX3_become : MethodName := ⟨RX3, "become", "(II)V"⟩
abbrev cX3_take : ByteArray := prog_5_method_3_code
def yX3_take : MethodName := ⟨RX3, "take", "(LStrokesHeard$Sheet;)V"⟩
abbrev cX3_isNumber : ByteArray := prog_5_method_4_code
def yX3_isNumber : MethodName := ⟨RX3, "isNumber", "(I)Z"⟩
abbrev cX3_hasRun : ByteArray := prog_5_method_5_code
def yX3_hasRun : MethodName := ⟨RX3, "hasRun", "(II)Z"⟩
def RX4 : String := "StrokesHeard$Slot"
def TX4 : u_T := fun k => match k with
  | 0 => ("StrokesHeard$Slot", "holds", "I", false)
  | 1 => ("StrokesHeard$Slot", "clock", "LStrokesHeard$Clock;", true)
  | 2 => ("StrokesHeard$Slot", "sheet", "LStrokesHeard$Sheet;", true)
  | _ => ("StrokesHeard$Slot", "number", "I", false)
def tyX4 : Nat → FieldType := fun k => match k with
  | 0 => .int
  | 1 => .object "StrokesHeard$Clock"
  | 2 => .object "StrokesHeard$Sheet"
  | _ => .int
theorem nmX4 : ∀ a, a < 4 → ∀ b, b < 4 → a ≠ b → (TX4 a).2.1 ≠ (TX4 b).2.1 := by decide +kernel
theorem tyX4_ok : ∀ k, k < 4 → parseFieldDescriptor (TX4 k).2.2.1 = some (tyX4 k) := by decide +kernel
abbrev cX4_init : ByteArray := prog_6_method_1_code
def yX4_init : MethodName := ⟨RX4, "<init>", "()V"⟩
def RX5 : String := "StrokesHeard$Text"
def TX5 : u_T := fun k => match k with
  | 0 => ("StrokesHeard$Text", "key", "I", true)
  | 1 => ("StrokesHeard$Text", "pieces", "I", true)
  | 2 => ("StrokesHeard$Text", "steps", "[I", true)
  | _ => ("StrokesHeard$Text", "stack", "[I", true)
def tyX5 : Nat → FieldType := fun k => match k with
  | 0 => .int
  | 1 => .int
  | 2 => .array .int
  | _ => .array .int
theorem nmX5 : ∀ a, a < 4 → ∀ b, b < 4 → a ≠ b → (TX5 a).2.1 ≠ (TX5 b).2.1 := by decide +kernel
theorem tyX5_ok : ∀ k, k < 4 → parseFieldDescriptor (TX5 k).2.2.1 = some (tyX5 k) := by decide +kernel
abbrev cX5_init : ByteArray := prog_7_method_1_code
def yX5_init : MethodName := ⟨RX5, "<init>", "(II[I)V"⟩
abbrev cX5_value : ByteArray := prog_7_method_2_code
def yX5_value : MethodName := ⟨RX5, "value", "(III)I"⟩
abbrev cX5_joined : ByteArray := prog_7_method_3_code
def yX5_joined : MethodName := ⟨RX5, "joined", "(III)I"⟩
def RX6 : String := "StrokesHeard$TextReader"
def TX6 : u_T := fun k => match k with
  | 0 => ("StrokesHeard$TextReader", "bytes", "[B", false)
  | 1 => ("StrokesHeard$TextReader", "length", "I", false)
  | 2 => ("StrokesHeard$TextReader", "sort", "I", false)
  | 3 => ("StrokesHeard$TextReader", "start", "I", false)
  | 4 => ("StrokesHeard$TextReader", "end", "I", false)
  | 5 => ("StrokesHeard$TextReader", "key", "I", false)
  | 6 => ("StrokesHeard$TextReader", "pieces", "I", false)
  | 7 => ("StrokesHeard$TextReader", "steps", "[I", true)
  | _ => ("StrokesHeard$TextReader", "stepCount", "I", false)
def tyX6 : Nat → FieldType := fun k => match k with
  | 0 => .array .byte
  | 1 => .int
  | 2 => .int
  | 3 => .int
  | 4 => .int
  | 5 => .int
  | 6 => .int
  | 7 => .array .int
  | _ => .int
theorem nmX6 : ∀ a, a < 9 → ∀ b, b < 9 → a ≠ b → (TX6 a).2.1 ≠ (TX6 b).2.1 := by decide +kernel
theorem tyX6_ok : ∀ k, k < 9 → parseFieldDescriptor (TX6 k).2.2.1 = some (tyX6 k) := by decide +kernel
abbrev cX6_init : ByteArray := prog_8_method_1_code
def yX6_init : MethodName := ⟨RX6, "<init>", "()V"⟩
abbrev cX6_readText : ByteArray := prog_8_method_2_code
def yX6_readText : MethodName := ⟨RX6, "readText", "([BI)Z"⟩
abbrev cX6_newText : ByteArray := prog_8_method_3_code
def yX6_newText : MethodName := ⟨RX6, "newText", "()LStrokesHeard$Text;"⟩
abbrev cX6_advance : ByteArray := prog_8_method_4_code
def yX6_advance : MethodName := ⟨RX6, "advance", "()V"⟩
abbrev cX6_isLetter : ByteArray := prog_8_method_5_code
def yX6_isLetter : MethodName := ⟨RX6, "isLetter", "(B)Z"⟩
abbrev cX6_isDigit : ByteArray := prog_8_method_6_code
def yX6_isDigit : MethodName := ⟨RX6, "isDigit", "(B)Z"⟩
abbrev cX6_isSign : ByteArray := prog_8_method_7_code
def yX6_isSign : MethodName := ⟨RX6, "isSign", "(C)Z"⟩
abbrev cX6_signAmong : ByteArray := prog_8_method_8_code
def yX6_signAmong : MethodName := ⟨RX6, "signAmong", "(Ljava/lang/String;)I"⟩
abbrev cX6_isWord : ByteArray := prog_8_method_9_code
def yX6_isWord : MethodName := ⟨RX6, "isWord", "(Ljava/lang/String;)Z"⟩
abbrev cX6_readKey : ByteArray := prog_8_method_10_code
def yX6_readKey : MethodName := ⟨RX6, "readKey", "()Z"⟩
abbrev cX6_addStep : ByteArray := prog_8_method_11_code
def yX6_addStep : MethodName := ⟨RX6, "addStep", "(I)V"⟩
abbrev cX6_readOr : ByteArray := prog_8_method_12_code
def yX6_readOr : MethodName := ⟨RX6, "readOr", "(II)Z"⟩
abbrev cX6_readAnd : ByteArray := prog_8_method_13_code
def yX6_readAnd : MethodName := ⟨RX6, "readAnd", "(II)Z"⟩
abbrev cX6_readTest : ByteArray := prog_8_method_14_code
def yX6_readTest : MethodName := ⟨RX6, "readTest", "(II)Z"⟩
abbrev cX6_readSum : ByteArray := prog_8_method_15_code
def yX6_readSum : MethodName := ⟨RX6, "readSum", "(II)Z"⟩
abbrev cX6_readTerm : ByteArray := prog_8_method_16_code
def yX6_readTerm : MethodName := ⟨RX6, "readTerm", "(II)Z"⟩
abbrev cX6_readPiece : ByteArray := prog_8_method_17_code
def yX6_readPiece : MethodName := ⟨RX6, "readPiece", "(II)Z"⟩
abbrev cX6_readNumber : ByteArray := prog_8_method_18_code
def yX6_readNumber : MethodName := ⟨RX6, "readNumber", "()Z"⟩
abbrev cX6_readName : ByteArray := prog_8_method_19_code
def yX6_readName : MethodName := ⟨RX6, "readName", "()Z"⟩
def RX7 : String := "StrokesHeard$Windows"
def TX7 : u_T := fun k => match k with
  | 0 => ("StrokesHeard$Windows", "group", "[I", true)
  | 1 => ("StrokesHeard$Windows", "newestPart", "[I", true)
  | 2 => ("StrokesHeard$Windows", "olderPart", "[I", true)
  | 3 => ("StrokesHeard$Windows", "partTotal", "[I", true)
  | 4 => ("StrokesHeard$Windows", "partHour", "[I", true)
  | _ => ("StrokesHeard$Windows", "partCount", "I", false)
def tyX7 : Nat → FieldType := fun k => match k with
  | 0 => .array .int
  | 1 => .array .int
  | 2 => .array .int
  | 3 => .array .int
  | 4 => .array .int
  | _ => .int
theorem nmX7 : ∀ a, a < 6 → ∀ b, b < 6 → a ≠ b → (TX7 a).2.1 ≠ (TX7 b).2.1 := by decide +kernel
theorem tyX7_ok : ∀ k, k < 6 → parseFieldDescriptor (TX7 k).2.2.1 = some (tyX7 k) := by decide +kernel
abbrev cX7_init : ByteArray := prog_9_method_1_code
def yX7_init : MethodName := ⟨RX7, "<init>", "()V"⟩
abbrev cX7_shortest : ByteArray := prog_9_method_2_code
def yX7_shortest : MethodName := ⟨RX7, "shortest", "([I)I"⟩
abbrev cX7_splitLeavesDoubt : ByteArray := prog_9_method_3_code
def yX7_splitLeavesDoubt : MethodName := ⟨RX7, "splitLeavesDoubt", "([II)Z"⟩
abbrev cX7_partOf : ByteArray := prog_9_method_4_code
def yX7_partOf : MethodName := ⟨RX7, "partOf", "(III)I"⟩
def RX8 : String := "StrokesHeard"
def TX8 : u_T := fun k => match k with
  | 0 => ("StrokesHeard", "now", "LStrokesHeard$Night;", true)
  | 1 => ("StrokesHeard", "image", "LStrokesHeard$Night;", true)
  | 2 => ("StrokesHeard", "thought", "LStrokesHeard$Night;", true)
  | 3 => ("StrokesHeard", "kept", "Z", false)
  | 4 => ("StrokesHeard", "guess", "LStrokesHeard$Guess;", true)
  | 5 => ("StrokesHeard", "windows", "LStrokesHeard$Windows;", true)
  | 6 => ("StrokesHeard", "reader", "LStrokesHeard$TextReader;", true)
  | 7 => ("StrokesHeard", "tape", "[B", true)
  | 8 => ("StrokesHeard", "tapeCount", "I", false)
  | 9 => ("StrokesHeard", "waiting", "[I", true)
  | 10 => ("StrokesHeard", "waitingCount", "I", false)
  | 11 => ("StrokesHeard", "sheets", "[LStrokesHeard$Sheet;", true)
  | _ => ("StrokesHeard", "slots", "[LStrokesHeard$Slot;", true)
def tyX8 : Nat → FieldType := fun k => match k with
  | 0 => .object "StrokesHeard$Night"
  | 1 => .object "StrokesHeard$Night"
  | 2 => .object "StrokesHeard$Night"
  | 3 => .boolean
  | 4 => .object "StrokesHeard$Guess"
  | 5 => .object "StrokesHeard$Windows"
  | 6 => .object "StrokesHeard$TextReader"
  | 7 => .array .byte
  | 8 => .int
  | 9 => .array .int
  | 10 => .int
  | 11 => .array (.object "StrokesHeard$Sheet")
  | _ => .array (.object "StrokesHeard$Slot")
theorem nmX8 : ∀ a, a < 13 → ∀ b, b < 13 → a ≠ b → (TX8 a).2.1 ≠ (TX8 b).2.1 := by decide +kernel
theorem tyX8_ok : ∀ k, k < 13 → parseFieldDescriptor (TX8 k).2.2.1 = some (tyX8 k) := by decide +kernel
abbrev cX8_init : ByteArray := prog_1_method_1_code
def yX8_init : MethodName := ⟨RX8, "<init>", "()V"⟩
abbrev cX8_clock : ByteArray := prog_1_method_2_code
def yX8_clock : MethodName := ⟨RX8, "clock", "(III)I"⟩
abbrev cX8_told : ByteArray := prog_1_method_3_code
def yX8_told : MethodName := ⟨RX8, "told", "(II)I"⟩
abbrev cX8_as : ByteArray := prog_1_method_4_code
def yX8_as : MethodName := ⟨RX8, "as", "(II)I"⟩
abbrev cX8_turns : ByteArray := prog_1_method_5_code
def yX8_turns : MethodName := ⟨RX8, "turns", "(II)I"⟩
abbrev cX8_set : ByteArray := prog_1_method_6_code
def yX8_set : MethodName := ⟨RX8, "set", "(III)I"⟩
abbrev cX8_strokes : ByteArray := prog_1_method_7_code
def yX8_strokes : MethodName := ⟨RX8, "strokes", "(II)I"⟩
abbrev cX8_total : ByteArray := prog_1_method_8_code
def yX8_total : MethodName := ⟨RX8, "total", "(I)I"⟩
abbrev cX8_ear : ByteArray := prog_1_method_9_code
def yX8_ear : MethodName := ⟨RX8, "ear", "(II)I"⟩
abbrev cX8_deal : ByteArray := prog_1_method_10_code
def yX8_deal : MethodName := ⟨RX8, "deal", "(I)I"⟩
abbrev cX8_seed : ByteArray := prog_1_method_11_code
def yX8_seed : MethodName := ⟨RX8, "seed", "(I)I"⟩
abbrev cX8_minutes : ByteArray := prog_1_method_12_code
def yX8_minutes : MethodName := ⟨RX8, "minutes", "(I)I"⟩
abbrev cX8_bed : ByteArray := prog_1_method_13_code
def yX8_bed : MethodName := ⟨RX8, "bed", "(I)I"⟩
abbrev cX8_note : ByteArray := prog_1_method_14_code
def yX8_note : MethodName := ⟨RX8, "note", "(I)I"⟩
abbrev cX8_fits : ByteArray := prog_1_method_15_code
def yX8_fits : MethodName := ⟨RX8, "fits", "(I)I"⟩
abbrev cX8_may : ByteArray := prog_1_method_16_code
def yX8_may : MethodName := ⟨RX8, "may", "(I)I"⟩
abbrev cX8_next : ByteArray := prog_1_method_17_code
def yX8_next : MethodName := ⟨RX8, "next", "()I"⟩
abbrev cX8_parts : ByteArray := prog_1_method_18_code
def yX8_parts : MethodName := ⟨RX8, "parts", "(II)I"⟩
abbrev cX8_astray : ByteArray := prog_1_method_19_code
def yX8_astray : MethodName := ⟨RX8, "astray", "(I)I"⟩
abbrev cX8_right : ByteArray := prog_1_method_20_code
def yX8_right : MethodName := ⟨RX8, "right", "(II)I"⟩
abbrev cX8_telling : ByteArray := prog_1_method_21_code
def yX8_telling : MethodName := ⟨RX8, "telling", "()I"⟩
abbrev cX8_like : ByteArray := prog_1_method_22_code
def yX8_like : MethodName := ⟨RX8, "like", "(II)I"⟩
abbrev cX8_behind : ByteArray := prog_1_method_23_code
def yX8_behind : MethodName := ⟨RX8, "behind", "(II)I"⟩
abbrev cX8_listen : ByteArray := prog_1_method_24_code
def yX8_listen : MethodName := ⟨RX8, "listen", "()I"⟩
abbrev cX8_fee : ByteArray := prog_1_method_25_code
def yX8_fee : MethodName := ⟨RX8, "fee", "()I"⟩
abbrev cX8_fine : ByteArray := prog_1_method_26_code
def yX8_fine : MethodName := ⟨RX8, "fine", "(I)I"⟩
abbrev cX8_feed : ByteArray := prog_1_method_27_code
def yX8_feed : MethodName := ⟨RX8, "feed", "(III)I"⟩
abbrev cX8_trim : ByteArray := prog_1_method_28_code
def yX8_trim : MethodName := ⟨RX8, "trim", "(I)I"⟩
abbrev cX8_text : ByteArray := prog_1_method_29_code
def yX8_text : MethodName := ⟨RX8, "text", "()I"⟩
abbrev cX8_textTold : ByteArray := prog_1_method_30_code
def yX8_textTold : MethodName := ⟨RX8, "textTold", "(II)I"⟩
abbrev cX8_why : ByteArray := prog_1_method_31_code
def yX8_why : MethodName := ⟨RX8, "why", "(I)I"⟩
abbrev cX8_sheet : ByteArray := prog_1_method_32_code
def yX8_sheet : MethodName := ⟨RX8, "sheet", "(III)I"⟩
abbrev cX8_mark : ByteArray := prog_1_method_33_code
def yX8_mark : MethodName := ⟨RX8, "mark", "(III)I"⟩
abbrev cX8_pour : ByteArray := prog_1_method_34_code
def yX8_pour : MethodName := ⟨RX8, "pour", "(I)I"⟩
abbrev cX8_reads : ByteArray := prog_1_method_35_code
def yX8_reads : MethodName := ⟨RX8, "reads", "(I)I"⟩
abbrev cX8_copy : ByteArray := prog_1_method_36_code
def yX8_copy : MethodName := ⟨RX8, "copy", "(IIIII)I"⟩
abbrev cX8_lay : ByteArray := prog_1_method_37_code
def yX8_lay : MethodName := ⟨RX8, "lay", "(III)I"⟩
abbrev cX8_ask : ByteArray := prog_1_method_38_code
def yX8_ask : MethodName := ⟨RX8, "ask", "(II)I"⟩
abbrev cX8_item : ByteArray := prog_1_method_39_code
def yX8_item : MethodName := ⟨RX8, "item", "(II)I"⟩
abbrev cX8_rest : ByteArray := prog_1_method_40_code
def yX8_rest : MethodName := ⟨RX8, "rest", "(II)I"⟩
abbrev cX8_tell : ByteArray := prog_1_method_41_code
def yX8_tell : MethodName := ⟨RX8, "tell", "(I)I"⟩
abbrev cX8_check : ByteArray := prog_1_method_42_code
def yX8_check : MethodName := ⟨RX8, "check", "(I)I"⟩
abbrev cX8_keep : ByteArray := prog_1_method_43_code
def yX8_keep : MethodName := ⟨RX8, "keep", "()I"⟩
abbrev cX8_back : ByteArray := prog_1_method_44_code
def yX8_back : MethodName := ⟨RX8, "back", "()I"⟩
abbrev cX8_count : ByteArray := prog_1_method_45_code
def yX8_count : MethodName := ⟨RX8, "count", "(I)I"⟩
abbrev cX8_putBytes : ByteArray := prog_1_method_46_code
def yX8_putBytes : MethodName := ⟨RX8, "putBytes", "(I)V"⟩
abbrev cX8_within : ByteArray := prog_1_method_47_code
def yX8_within : MethodName := ⟨RX8, "within", "(II)Z"⟩
abbrev cX8_held : ByteArray := prog_1_method_48_code
def yX8_held : MethodName := ⟨RX8, "held", "(III)I"⟩
abbrev cX8_isUnder : ByteArray := prog_1_method_49_code
def yX8_isUnder : MethodName := ⟨RX8, "isUnder", "(II)Z"⟩
abbrev cX8_fullStrokes : ByteArray := prog_1_method_50_code
def yX8_fullStrokes : MethodName := ⟨RX8, "fullStrokes", "(II)I"⟩
abbrev cX8_strokesWithin : ByteArray := prog_1_method_51_code
def yX8_strokesWithin : MethodName := ⟨RX8, "strokesWithin", "(IIII)I"⟩
def RX9 : String := "StrokesHeardModel"
def TX9 : u_T := fun k => match k with
  | 0 => ("StrokesHeardModel", "s", "[I", true)
  | 1 => ("StrokesHeardModel", "image", "[I", true)
  | 2 => ("StrokesHeardModel", "aside", "[I", true)
  | 3 => ("StrokesHeardModel", "hasImage", "Z", false)
  | 4 => ("StrokesHeardModel", "tSort", "[I", true)
  | 5 => ("StrokesHeardModel", "tSize", "[I", true)
  | 6 => ("StrokesHeardModel", "tNumber", "[I", true)
  | 7 => ("StrokesHeardModel", "held", "[I", true)
  | 8 => ("StrokesHeardModel", "heldNumber", "[I", true)
  | 9 => ("StrokesHeardModel", "heldWorth", "[I", true)
  | 10 => ("StrokesHeardModel", "heldSize", "[I", true)
  | 11 => ("StrokesHeardModel", "heldRow", "[I", true)
  | 12 => ("StrokesHeardModel", "all", "[I", true)
  | 13 => ("StrokesHeardModel", "close", "[I", true)
  | 14 => ("StrokesHeardModel", "tape", "[I", true)
  | 15 => ("StrokesHeardModel", "taped", "I", false)
  | 16 => ("StrokesHeardModel", "begin", "I", false)
  | 17 => ("StrokesHeardModel", "behind", "I", false)
  | 18 => ("StrokesHeardModel", "token", "I", false)
  | 19 => ("StrokesHeardModel", "number", "I", false)
  | 20 => ("StrokesHeardModel", "letter", "I", false)
  | 21 => ("StrokesHeardModel", "deep", "I", false)
  | 22 => ("StrokesHeardModel", "turned", "I", false)
  | 23 => ("StrokesHeardModel", "laid", "I", false)
  | 24 => ("StrokesHeardModel", "laidAt", "I", false)
  | 25 => ("StrokesHeardModel", "said", "I", false)
  | 26 => ("StrokesHeardModel", "named", "[I", true)
  | 27 => ("StrokesHeardModel", "pile", "[I", true)
  | 28 => ("StrokesHeardModel", "carried", "[I", true)
  | 29 => ("StrokesHeardModel", "waits", "[I", true)
  | 30 => ("StrokesHeardModel", "waiting", "I", false)
  | _ => ("StrokesHeardModel", "rowDue", "[I", true)
def tyX9 : Nat → FieldType := fun k => match k with
  | 0 => .array .int
  | 1 => .array .int
  | 2 => .array .int
  | 3 => .boolean
  | 4 => .array .int
  | 5 => .array .int
  | 6 => .array .int
  | 7 => .array .int
  | 8 => .array .int
  | 9 => .array .int
  | 10 => .array .int
  | 11 => .array .int
  | 12 => .array .int
  | 13 => .array .int
  | 14 => .array .int
  | 15 => .int
  | 16 => .int
  | 17 => .int
  | 18 => .int
  | 19 => .int
  | 20 => .int
  | 21 => .int
  | 22 => .int
  | 23 => .int
  | 24 => .int
  | 25 => .int
  | 26 => .array .int
  | 27 => .array .int
  | 28 => .array .int
  | 29 => .array .int
  | 30 => .int
  | _ => .array .int
theorem nmX9 : ∀ a, a < 32 → ∀ b, b < 32 → a ≠ b → (TX9 a).2.1 ≠ (TX9 b).2.1 := by decide +kernel
theorem tyX9_ok : ∀ k, k < 32 → parseFieldDescriptor (TX9 k).2.2.1 = some (tyX9 k) := by decide +kernel
abbrev cX9_init : ByteArray := prog_11_method_1_code
def yX9_init : MethodName := ⟨RX9, "<init>", "()V"⟩
abbrev cX9_isIn : ByteArray := prog_11_method_2_code
def yX9_isIn : MethodName := ⟨RX9, "isIn", "(JJJ)Z"⟩
abbrev cX9_orNone : ByteArray := prog_11_method_3_code
def yX9_orNone : MethodName := ⟨RX9, "orNone", "(I)I"⟩
abbrev cX9_within : ByteArray := prog_11_method_4_code
def yX9_within : MethodName := ⟨RX9, "within", "(II)I"⟩
abbrev cX9_off : ByteArray := prog_11_method_5_code
def yX9_off : MethodName := ⟨RX9, "off", "(II)I"⟩
abbrev cX9_becomes : ByteArray := prog_11_method_6_code
def yX9_becomes : MethodName := ⟨RX9, "becomes", "(II)I"⟩
abbrev cX9_textAt : ByteArray := prog_11_method_7_code
def yX9_textAt : MethodName := ⟨RX9, "textAt", "(I)I"⟩
abbrev cX9_of : ByteArray := prog_11_method_8_code
def yX9_of : MethodName := ⟨RX9, "of", "(II)I"⟩
abbrev cX9_sets : ByteArray := prog_11_method_9_code
def yX9_sets : MethodName := ⟨RX9, "sets", "(III)V"⟩
abbrev cX9_isClock : ByteArray := prog_11_method_10_code
def yX9_isClock : MethodName := ⟨RX9, "isClock", "(I)Z"⟩
abbrev cX9_isText : ByteArray := prog_11_method_11_code
def yX9_isText : MethodName := ⟨RX9, "isText", "(I)Z"⟩
abbrev cX9_drawn : ByteArray := prog_11_method_12_code
def yX9_drawn : MethodName := ⟨RX9, "drawn", "()I"⟩
abbrev cX9_isOf : ByteArray := prog_11_method_13_code
def yX9_isOf : MethodName := ⟨RX9, "isOf", "(II)Z"⟩
abbrev cX9_comes : ByteArray := prog_11_method_14_code
def yX9_comes : MethodName := ⟨RX9, "comes", "(III)V"⟩
abbrev cX9_clock : ByteArray := prog_11_method_15_code
def yX9_clock : MethodName := ⟨RX9, "clock", "(III)I"⟩
abbrev cX9_again : ByteArray := prog_11_method_17_code
def yX9_again : MethodName := ⟨RX9, "again", "(II)I"⟩
abbrev cX9_atHour : ByteArray := prog_11_method_18_code
def yX9_atHour : MethodName := ⟨RX9, "atHour", "(II)I"⟩
abbrev cX9_strikes : ByteArray := prog_11_method_19_code
def yX9_strikes : MethodName := ⟨RX9, "strikes", "(II)I"⟩
abbrev cX9_worth : ByteArray := prog_11_method_20_code
def yX9_worth : MethodName := ⟨RX9, "worth", "(I)I"⟩
abbrev cX9_timeNow : ByteArray := prog_11_method_21_code
def yX9_timeNow : MethodName := ⟨RX9, "timeNow", "()I"⟩
abbrev cX9_isTime : ByteArray := prog_11_method_22_code
def yX9_isTime : MethodName := ⟨RX9, "isTime", "(I)Z"⟩
abbrev cX9_told : ByteArray := prog_11_method_23_code
def yX9_told : MethodName := ⟨RX9, "told", "(II)I"⟩
abbrev cX9_as : ByteArray := prog_11_method_24_code
def yX9_as : MethodName := ⟨RX9, "as", "(II)I"⟩
abbrev cX9_turns : ByteArray := prog_11_method_25_code
def yX9_turns : MethodName := ⟨RX9, "turns", "(II)I"⟩
abbrev cX9_set : ByteArray := prog_11_method_26_code
def yX9_set : MethodName := ⟨RX9, "set", "(III)I"⟩
abbrev cX9_strokes : ByteArray := prog_11_method_27_code
def yX9_strokes : MethodName := ⟨RX9, "strokes", "(II)I"⟩
abbrev cX9_totalAt : ByteArray := prog_11_method_28_code
def yX9_totalAt : MethodName := ⟨RX9, "totalAt", "(I)I"⟩
abbrev cX9_total : ByteArray := prog_11_method_29_code
def yX9_total : MethodName := ⟨RX9, "total", "(I)I"⟩
abbrev cX9_ear : ByteArray := prog_11_method_30_code
def yX9_ear : MethodName := ⟨RX9, "ear", "(II)I"⟩
abbrev cX9_deal : ByteArray := prog_11_method_31_code
def yX9_deal : MethodName := ⟨RX9, "deal", "(I)I"⟩
abbrev cX9_seed : ByteArray := prog_11_method_32_code
def yX9_seed : MethodName := ⟨RX9, "seed", "(I)I"⟩
abbrev cX9_goesOn : ByteArray := prog_11_method_33_code
def yX9_goesOn : MethodName := ⟨RX9, "goesOn", "()V"⟩
abbrev cX9_goesOnMany : ByteArray := prog_11_method_34_code
def yX9_goesOnMany : MethodName := ⟨RX9, "goesOnMany", "(I)V"⟩
abbrev cX9_minutes : ByteArray := prog_11_method_35_code
def yX9_minutes : MethodName := ⟨RX9, "minutes", "(I)I"⟩
abbrev cX9_bed : ByteArray := prog_11_method_36_code
def yX9_bed : MethodName := ⟨RX9, "bed", "(I)I"⟩
abbrev cX9_note : ByteArray := prog_11_method_37_code
def yX9_note : MethodName := ⟨RX9, "note", "(I)I"⟩
abbrev cX9_findAll : ByteArray := prog_11_method_38_code
def yX9_findAll : MethodName := ⟨RX9, "findAll", "()V"⟩
abbrev cX9_findMore : ByteArray := prog_11_method_39_code
def yX9_findMore : MethodName := ⟨RX9, "findMore", "(II)V"⟩
abbrev cX9_doesFit : ByteArray := prog_11_method_40_code
def yX9_doesFit : MethodName := ⟨RX9, "doesFit", "(I)Z"⟩
abbrev cX9_manyFit : ByteArray := prog_11_method_41_code
def yX9_manyFit : MethodName := ⟨RX9, "manyFit", "()I"⟩
abbrev cX9_hoursFit : ByteArray := prog_11_method_42_code
def yX9_hoursFit : MethodName := ⟨RX9, "hoursFit", "()I"⟩
abbrev cX9_isSure : ByteArray := prog_11_method_43_code
def yX9_isSure : MethodName := ⟨RX9, "isSure", "()Z"⟩
abbrev cX9_fits : ByteArray := prog_11_method_44_code
def yX9_fits : MethodName := ⟨RX9, "fits", "(I)I"⟩
abbrev cX9_may : ByteArray := prog_11_method_45_code
def yX9_may : MethodName := ⟨RX9, "may", "(I)I"⟩
abbrev cX9_next : ByteArray := prog_11_method_46_code
def yX9_next : MethodName := ⟨RX9, "next", "()I"⟩
abbrev cX9_parts : ByteArray := prog_11_method_47_code
def yX9_parts : MethodName := ⟨RX9, "parts", "(II)I"⟩
abbrev cX9_astray : ByteArray := prog_11_method_48_code
def yX9_astray : MethodName := ⟨RX9, "astray", "(I)I"⟩
abbrev cX9_right : ByteArray := prog_11_method_49_code
def yX9_right : MethodName := ⟨RX9, "right", "(II)I"⟩
abbrev cX9_telling : ByteArray := prog_11_method_50_code
def yX9_telling : MethodName := ⟨RX9, "telling", "()I"⟩
abbrev cX9_offBy : ByteArray := prog_11_method_51_code
def yX9_offBy : MethodName := ⟨RX9, "offBy", "(II)I"⟩
abbrev cX9_like : ByteArray := prog_11_method_52_code
def yX9_like : MethodName := ⟨RX9, "like", "(II)I"⟩
abbrev cX9_laysBy : ByteArray := prog_11_method_53_code
def yX9_laysBy : MethodName := ⟨RX9, "laysBy", "()V"⟩
abbrev cX9_laysBack : ByteArray := prog_11_method_54_code
def yX9_laysBack : MethodName := ⟨RX9, "laysBack", "()V"⟩
abbrev cX9_behind : ByteArray := prog_11_method_55_code
def yX9_behind : MethodName := ⟨RX9, "behind", "(II)I"⟩
abbrev cX9_listen : ByteArray := prog_11_method_56_code
def yX9_listen : MethodName := ⟨RX9, "listen", "()I"⟩
abbrev cX9_fee : ByteArray := prog_11_method_57_code
def yX9_fee : MethodName := ⟨RX9, "fee", "()I"⟩
abbrev cX9_fine : ByteArray := prog_11_method_58_code
def yX9_fine : MethodName := ⟨RX9, "fine", "(I)I"⟩
abbrev cX9_feed : ByteArray := prog_11_method_59_code
def yX9_feed : MethodName := ⟨RX9, "feed", "(III)I"⟩
abbrev cX9_trim : ByteArray := prog_11_method_60_code
def yX9_trim : MethodName := ⟨RX9, "trim", "(I)I"⟩
abbrev cX9_isLetter : ByteArray := prog_11_method_61_code
def yX9_isLetter : MethodName := ⟨RX9, "isLetter", "(I)Z"⟩
abbrev cX9_isDigit : ByteArray := prog_11_method_62_code
def yX9_isDigit : MethodName := ⟨RX9, "isDigit", "(I)Z"⟩
abbrev cX9_nextToken : ByteArray := prog_11_method_63_code
def yX9_nextToken : MethodName := ⟨RX9, "nextToken", "()V"⟩
abbrev cX9_isSign : ByteArray := prog_11_method_64_code
def yX9_isSign : MethodName := ⟨RX9, "isSign", "(I)Z"⟩
abbrev cX9_isWordAt : ByteArray := prog_11_method_65_code
def yX9_isWordAt : MethodName := ⟨RX9, "isWordAt", "(IIII)Z"⟩
abbrev cX9_isLong : ByteArray := prog_11_method_66_code
def yX9_isLong : MethodName := ⟨RX9, "isLong", "(IIIIII)Z"⟩
abbrev cX9_key : ByteArray := prog_11_method_67_code
def yX9_key : MethodName := ⟨RX9, "key", "()I"⟩
abbrev cX9_isName : ByteArray := prog_11_method_68_code
def yX9_isName : MethodName := ⟨RX9, "isName", "(II)Z"⟩
abbrev cX9_step : ByteArray := prog_11_method_69_code
def yX9_step : MethodName := ⟨RX9, "step", "(II)V"⟩
abbrev cX9_either : ByteArray := prog_11_method_70_code
def yX9_either : MethodName := ⟨RX9, "either", "(I)Z"⟩
abbrev cX9_both : ByteArray := prog_11_method_71_code
def yX9_both : MethodName := ⟨RX9, "both", "(I)Z"⟩
abbrev cX9_test : ByteArray := prog_11_method_72_code
def yX9_test : MethodName := ⟨RX9, "test", "(I)Z"⟩
abbrev cX9_sum : ByteArray := prog_11_method_73_code
def yX9_sum : MethodName := ⟨RX9, "sum", "(I)Z"⟩
abbrev cX9_term : ByteArray := prog_11_method_74_code
def yX9_term : MethodName := ⟨RX9, "term", "(I)Z"⟩
abbrev cX9_part0 : ByteArray := prog_11_method_75_code
def yX9_part0 : MethodName := ⟨RX9, "part0", "(I)Z"⟩
abbrev cX9_parse : ByteArray := prog_11_method_76_code
def yX9_parse : MethodName := ⟨RX9, "parse", "()I"⟩
abbrev cX9_text : ByteArray := prog_11_method_77_code
def yX9_text : MethodName := ⟨RX9, "text", "()I"⟩
abbrev cX9_textTold : ByteArray := prog_11_method_78_code
def yX9_textTold : MethodName := ⟨RX9, "textTold", "(II)I"⟩
abbrev cX9_counts : ByteArray := prog_11_method_79_code
def yX9_counts : MethodName := ⟨RX9, "counts", "(I)I"⟩
abbrev cX9_why : ByteArray := prog_11_method_80_code
def yX9_why : MethodName := ⟨RX9, "why", "(I)I"⟩
abbrev cX9_joined : ByteArray := prog_11_method_81_code
def yX9_joined : MethodName := ⟨RX9, "joined", "(III)I"⟩
abbrev cX9_worked : ByteArray := prog_11_method_82_code
def yX9_worked : MethodName := ⟨RX9, "worked", "(I)I"⟩
abbrev cX9_isSheet : ByteArray := prog_11_method_83_code
def yX9_isSheet : MethodName := ⟨RX9, "isSheet", "(I)Z"⟩
abbrev cX9_sheet : ByteArray := prog_11_method_84_code
def yX9_sheet : MethodName := ⟨RX9, "sheet", "(III)I"⟩
abbrev cX9_mark : ByteArray := prog_11_method_85_code
def yX9_mark : MethodName := ⟨RX9, "mark", "(III)I"⟩
abbrev cX9_pour : ByteArray := prog_11_method_86_code
def yX9_pour : MethodName := ⟨RX9, "pour", "(I)I"⟩
abbrev cX9_reads : ByteArray := prog_11_method_87_code
def yX9_reads : MethodName := ⟨RX9, "reads", "(I)I"⟩
abbrev cX9_copy : ByteArray := prog_11_method_88_code
def yX9_copy : MethodName := ⟨RX9, "copy", "(IIIII)I"⟩
abbrev cX9_isSlot : ByteArray := prog_11_method_89_code
def yX9_isSlot : MethodName := ⟨RX9, "isSlot", "(I)Z"⟩
abbrev cX9_lay : ByteArray := prog_11_method_90_code
def yX9_lay : MethodName := ⟨RX9, "lay", "(III)I"⟩
abbrev cX9_ask : ByteArray := prog_11_method_91_code
def yX9_ask : MethodName := ⟨RX9, "ask", "(II)I"⟩
abbrev cX9_item : ByteArray := prog_11_method_92_code
def yX9_item : MethodName := ⟨RX9, "item", "(II)I"⟩
abbrev cX9_rest : ByteArray := prog_11_method_93_code
def yX9_rest : MethodName := ⟨RX9, "rest", "(II)I"⟩
abbrev cX9_tell : ByteArray := prog_11_method_94_code
def yX9_tell : MethodName := ⟨RX9, "tell", "(I)I"⟩
abbrev cX9_setAside : ByteArray := prog_11_method_95_code
def yX9_setAside : MethodName := ⟨RX9, "setAside", "([I[I)V"⟩
abbrev cX9_check : ByteArray := prog_11_method_96_code
def yX9_check : MethodName := ⟨RX9, "check", "(I)I"⟩
abbrev cX9_keep : ByteArray := prog_11_method_97_code
def yX9_keep : MethodName := ⟨RX9, "keep", "()I"⟩
abbrev cX9_back : ByteArray := prog_11_method_98_code
def yX9_back : MethodName := ⟨RX9, "back", "()I"⟩
abbrev cX9_count : ByteArray := prog_11_method_99_code
def yX9_count : MethodName := ⟨RX9, "count", "(I)I"⟩
def RJx145de : String := "java/io/Serializable"
def TJx145de : u_T := fun k => match k with
  | _ => ("", "", "", false)
def tyJx145de : Nat → FieldType := fun k => match k with
  | _ => .int
theorem nmJx145de : ∀ a, a < 0 → ∀ b, b < 0 → a ≠ b → (TJx145de a).2.1 ≠ (TJx145de b).2.1 := by decide +kernel
theorem tyJx145de_ok : ∀ k, k < 0 → parseFieldDescriptor (TJx145de k).2.2.1 = some (tyJx145de k) := by decide +kernel
def RJx9f9b0 : String := "java/lang/CharSequence"
def TJx9f9b0 : u_T := fun k => match k with
  | _ => ("", "", "", false)
def tyJx9f9b0 : Nat → FieldType := fun k => match k with
  | _ => .int
theorem nmJx9f9b0 : ∀ a, a < 0 → ∀ b, b < 0 → a ≠ b → (TJx9f9b0 a).2.1 ≠ (TJx9f9b0 b).2.1 := by decide +kernel
theorem tyJx9f9b0_ok : ∀ k, k < 0 → parseFieldDescriptor (TJx9f9b0 k).2.2.1 = some (tyJx9f9b0 k) := by decide +kernel
def RJ11 : String := "java/lang/Character"
def TJ11 : u_T := fun k => match k with
  | _ => ("", "", "", false)
def tyJ11 : Nat → FieldType := fun k => match k with
  | _ => .int
theorem nmJ11 : ∀ a, a < 0 → ∀ b, b < 0 → a ≠ b → (TJ11 a).2.1 ≠ (TJ11 b).2.1 := by decide +kernel
theorem tyJ11_ok : ∀ k, k < 0 → parseFieldDescriptor (TJ11 k).2.2.1 = some (tyJ11 k) := by decide +kernel
abbrev cJ11_isValidCodePoint_9a6ad : ByteArray := prog_12_method_11_code
def yJ11_isValidCodePoint_9a6ad : MethodName := ⟨RJ11, "isValidCodePoint", "(I)Z"⟩
abbrev cJ11_highSurrogate_5068e : ByteArray := prog_12_method_28_code
def yJ11_highSurrogate_5068e : MethodName := ⟨RJ11, "highSurrogate", "(I)C"⟩
abbrev cJ11_lowSurrogate_5068e : ByteArray := prog_12_method_29_code
def yJ11_lowSurrogate_5068e : MethodName := ⟨RJ11, "lowSurrogate", "(I)C"⟩
def RJx8e188 : String := "java/lang/Cloneable"
def TJx8e188 : u_T := fun k => match k with
  | _ => ("", "", "", false)
def tyJx8e188 : Nat → FieldType := fun k => match k with
  | _ => .int
theorem nmJx8e188 : ∀ a, a < 0 → ∀ b, b < 0 → a ≠ b → (TJx8e188 a).2.1 ≠ (TJx8e188 b).2.1 := by decide +kernel
theorem tyJx8e188_ok : ∀ k, k < 0 → parseFieldDescriptor (TJx8e188 k).2.2.1 = some (tyJx8e188 k) := by decide +kernel
def RJxb160c : String := "java/lang/Comparable"
def TJxb160c : u_T := fun k => match k with
  | _ => ("", "", "", false)
def tyJxb160c : Nat → FieldType := fun k => match k with
  | _ => .int
theorem nmJxb160c : ∀ a, a < 0 → ∀ b, b < 0 → a ≠ b → (TJxb160c a).2.1 ≠ (TJxb160c b).2.1 := by decide +kernel
theorem tyJxb160c_ok : ∀ k, k < 0 → parseFieldDescriptor (TJxb160c k).2.2.1 = some (tyJxb160c k) := by decide +kernel
def RJ6 : String := "java/lang/Integer"
def TJ6 : u_T := fun k => match k with
  | _ => ("", "", "", false)
def tyJ6 : Nat → FieldType := fun k => match k with
  | _ => .int
theorem nmJ6 : ∀ a, a < 0 → ∀ b, b < 0 → a ≠ b → (TJ6 a).2.1 ≠ (TJ6 b).2.1 := by decide +kernel
theorem tyJ6_ok : ∀ k, k < 0 → parseFieldDescriptor (TJ6 k).2.2.1 = some (tyJ6 k) := by decide +kernel
abbrev cJ6_bitCount_0f7a4 : ByteArray := prog_14_method_49_code
def yJ6_bitCount_0f7a4 : MethodName := ⟨RJ6, "bitCount", "(I)I"⟩
def RJ9 : String := "java/lang/Math"
def TJ9 : u_T := fun k => match k with
  | _ => ("", "", "", false)
def tyJ9 : Nat → FieldType := fun k => match k with
  | _ => .int
theorem nmJ9 : ∀ a, a < 0 → ∀ b, b < 0 → a ≠ b → (TJ9 a).2.1 ≠ (TJ9 b).2.1 := by decide +kernel
theorem tyJ9_ok : ∀ k, k < 0 → parseFieldDescriptor (TJ9 k).2.2.1 = some (tyJ9 k) := by decide +kernel
abbrev cJ9_floorMod_7cf53 : ByteArray := prog_15_method_50_code
def yJ9_floorMod_7cf53 : MethodName := ⟨RJ9, "floorMod", "(II)I"⟩
abbrev cJ9_abs_0f7a4 : ByteArray := prog_15_method_59_code
def yJ9_abs_0f7a4 : MethodName := ⟨RJ9, "abs", "(I)I"⟩
abbrev cJ9_max_7cf53 : ByteArray := prog_15_method_65_code
def yJ9_max_7cf53 : MethodName := ⟨RJ9, "max", "(II)I"⟩
abbrev cJ9_min_7cf53 : ByteArray := prog_15_method_69_code
def yJ9_min_7cf53 : MethodName := ⟨RJ9, "min", "(II)I"⟩
def RJ0 : String := "java/lang/String"
def TJ0 : u_T := fun k => match k with
  | _ => ("", "", "", false)
def tyJ0 : Nat → FieldType := fun k => match k with
  | _ => .int
theorem nmJ0 : ∀ a, a < 0 → ∀ b, b < 0 → a ≠ b → (TJ0 a).2.1 ≠ (TJ0 b).2.1 := by decide +kernel
theorem tyJ0_ok : ∀ k, k < 0 → parseFieldDescriptor (TJ0 k).2.2.1 = some (tyJ0 k) := by decide +kernel
abbrev cJ0_length_8abf5 : ByteArray := prog_16_method_54_code
def yJ0_length_8abf5 : MethodName := ⟨RJ0, "length", "()I"⟩
abbrev cJ0_charAt_5068e : ByteArray := prog_16_method_56_code
def yJ0_charAt_5068e : MethodName := ⟨RJ0, "charAt", "(I)C"⟩
abbrev cJ0_indexOf_0f7a4 : ByteArray := prog_16_method_79_code
def yJ0_indexOf_0f7a4 : MethodName := ⟨RJ0, "indexOf", "(I)I"⟩
abbrev cJ0_indexOf_7cf53 : ByteArray := prog_16_method_80_code
def yJ0_indexOf_7cf53 : MethodName := ⟨RJ0, "indexOf", "(II)I"⟩
abbrev cJ0_coder_7d493 : ByteArray := prog_16_method_152_code
def yJ0_coder_7d493 : MethodName := ⟨RJ0, "coder", "()B"⟩
abbrev cJ0_isLatin1_aae02 : ByteArray := prog_16_method_154_code
def yJ0_isLatin1_aae02 : MethodName := ⟨RJ0, "isLatin1", "()Z"⟩
abbrev cJ0_checkIndex_df160 : ByteArray := prog_16_method_155_code
def yJ0_checkIndex_df160 : MethodName := ⟨RJ0, "checkIndex", "(II)V"⟩
abbrev cJ0_checkBoundsBeginEnd_23922 : ByteArray := prog_16_method_158_code
def yJ0_checkBoundsBeginEnd_23922 : MethodName := ⟨RJ0, "checkBoundsBeginEnd", "(III)V"⟩
def RJ1 : String := "java/lang/StringLatin1"
def TJ1 : u_T := fun k => match k with
  | _ => ("", "", "", false)
def tyJ1 : Nat → FieldType := fun k => match k with
  | _ => .int
theorem nmJ1 : ∀ a, a < 0 → ∀ b, b < 0 → a ≠ b → (TJ1 a).2.1 ≠ (TJ1 b).2.1 := by decide +kernel
theorem tyJ1_ok : ∀ k, k < 0 → parseFieldDescriptor (TJ1 k).2.2.1 = some (tyJ1 k) := by decide +kernel
abbrev cJ1_charAt_3b067 : ByteArray := prog_17_method_2_code
def yJ1_charAt_3b067 : MethodName := ⟨RJ1, "charAt", "([BI)C"⟩
abbrev cJ1_canEncode_9a6ad : ByteArray := prog_17_method_4_code
def yJ1_canEncode_9a6ad : MethodName := ⟨RJ1, "canEncode", "(I)Z"⟩
abbrev cJ1_indexOf_4cfef : ByteArray := prog_17_method_22_code
def yJ1_indexOf_4cfef : MethodName := ⟨RJ1, "indexOf", "([BIII)I"⟩
abbrev cJ1_indexOfChar_4cfef : ByteArray := prog_17_method_23_code
def yJ1_indexOfChar_4cfef : MethodName := ⟨RJ1, "indexOfChar", "([BIII)I"⟩
def RJ2 : String := "java/lang/StringUTF16"
def TJ2 : u_T := fun k => match k with
  | _ => ("", "", "", false)
def tyJ2 : Nat → FieldType := fun k => match k with
  | _ => .int
theorem nmJ2 : ∀ a, a < 0 → ∀ b, b < 0 → a ≠ b → (TJ2 a).2.1 ≠ (TJ2 b).2.1 := by decide +kernel
theorem tyJ2_ok : ∀ k, k < 0 → parseFieldDescriptor (TJ2 k).2.2.1 = some (tyJ2 k) := by decide +kernel
abbrev cJ2_getChar_3b067 : ByteArray := prog_18_method_5_code
def yJ2_getChar_3b067 : MethodName := ⟨RJ2, "getChar", "([BI)C"⟩
abbrev cJ2_length_9d52b : ByteArray := prog_18_method_6_code
def yJ2_length_9d52b : MethodName := ⟨RJ2, "length", "([B)I"⟩
abbrev cJ2_indexOf_4cfef : ByteArray := prog_18_method_40_code
def yJ2_indexOf_4cfef : MethodName := ⟨RJ2, "indexOf", "([BIII)I"⟩
abbrev cJ2_indexOfChar_4cfef : ByteArray := prog_18_method_47_code
def yJ2_indexOfChar_4cfef : MethodName := ⟨RJ2, "indexOfChar", "([BIII)I"⟩
abbrev cJ2_indexOfCharUnsafe_4cfef : ByteArray := prog_18_method_48_code
def yJ2_indexOfCharUnsafe_4cfef : MethodName := ⟨RJ2, "indexOfCharUnsafe", "([BIII)I"⟩
abbrev cJ2_indexOfSupplementary_4cfef : ByteArray := prog_18_method_49_code
def yJ2_indexOfSupplementary_4cfef : MethodName := ⟨RJ2, "indexOfSupplementary", "([BIII)I"⟩
abbrev cJ2_charAt_3b067 : ByteArray := prog_18_method_83_code
def yJ2_charAt_3b067 : MethodName := ⟨RJ2, "charAt", "([BI)C"⟩
abbrev cJ2_checkIndex_2214a : ByteArray := prog_18_method_91_code
def yJ2_checkIndex_2214a : MethodName := ⟨RJ2, "checkIndex", "(I[B)V"⟩
abbrev cJ2_checkBoundsBeginEnd_d044e : ByteArray := prog_18_method_93_code
def yJ2_checkBoundsBeginEnd_d044e : MethodName := ⟨RJ2, "checkBoundsBeginEnd", "(II[B)V"⟩
def RJ10 : String := "java/lang/System"
def TJ10 : u_T := fun k => match k with
  | _ => ("", "", "", false)
def tyJ10 : Nat → FieldType := fun k => match k with
  | _ => .int
theorem nmJ10 : ∀ a, a < 0 → ∀ b, b < 0 → a ≠ b → (TJ10 a).2.1 ≠ (TJ10 b).2.1 := by decide +kernel
theorem tyJ10_ok : ∀ k, k < 0 → parseFieldDescriptor (TJ10 k).2.2.1 = some (tyJ10 k) := by decide +kernel
def RJxfd54e : String := "java/lang/constant/Constable"
def TJxfd54e : u_T := fun k => match k with
  | _ => ("", "", "", false)
def tyJxfd54e : Nat → FieldType := fun k => match k with
  | _ => .int
theorem nmJxfd54e : ∀ a, a < 0 → ∀ b, b < 0 → a ≠ b → (TJxfd54e a).2.1 ≠ (TJxfd54e b).2.1 := by decide +kernel
theorem tyJxfd54e_ok : ∀ k, k < 0 → parseFieldDescriptor (TJxfd54e k).2.2.1 = some (tyJxfd54e k) := by decide +kernel
def RJx3cf43 : String := "java/lang/constant/ConstantDesc"
def TJx3cf43 : u_T := fun k => match k with
  | _ => ("", "", "", false)
def tyJx3cf43 : Nat → FieldType := fun k => match k with
  | _ => .int
theorem nmJx3cf43 : ∀ a, a < 0 → ∀ b, b < 0 → a ≠ b → (TJx3cf43 a).2.1 ≠ (TJx3cf43 b).2.1 := by decide +kernel
theorem tyJx3cf43_ok : ∀ k, k < 0 → parseFieldDescriptor (TJx3cf43 k).2.2.1 = some (tyJx3cf43 k) := by decide +kernel
def RJ7 : String := "java/util/Arrays"
def TJ7 : u_T := fun k => match k with
  | _ => ("", "", "", false)
def tyJ7 : Nat → FieldType := fun k => match k with
  | _ => .int
theorem nmJ7 : ∀ a, a < 0 → ∀ b, b < 0 → a ≠ b → (TJ7 a).2.1 ≠ (TJ7 b).2.1 := by decide +kernel
theorem tyJ7_ok : ∀ k, k < 0 → parseFieldDescriptor (TJ7 k).2.2.1 = some (tyJ7 k) := by decide +kernel
abbrev cJ7_fill_53178 : ByteArray := prog_20_method_103_code
def yJ7_fill_53178 : MethodName := ⟨RJ7, "fill", "([II)V"⟩
abbrev cJ7_copyOf_59c91 : ByteArray := prog_20_method_123_code
def yJ7_copyOf_59c91 : MethodName := ⟨RJ7, "copyOf", "([II)[I"⟩
def RJ3 : String := "jdk/internal/util/Preconditions"
def TJ3 : u_T := fun k => match k with
  | _ => ("", "", "", false)
def tyJ3 : Nat → FieldType := fun k => match k with
  | _ => .int
theorem nmJ3 : ∀ a, a < 0 → ∀ b, b < 0 → a ≠ b → (TJ3 a).2.1 ≠ (TJ3 b).2.1 := by decide +kernel
theorem tyJ3_ok : ∀ k, k < 0 → parseFieldDescriptor (TJ3 k).2.2.1 = some (tyJ3 k) := by decide +kernel
abbrev cJ3_checkIndex_8e157 : ByteArray := prog_21_method_11_code
def yJ3_checkIndex_8e157 : MethodName := ⟨RJ3, "checkIndex", "(IILjava/util/function/BiFunction;)I"⟩
abbrev cJ3_checkFromToIndex_8c36e : ByteArray := prog_21_method_12_code
def yJ3_checkFromToIndex_8c36e : MethodName := ⟨RJ3, "checkFromToIndex", "(IIILjava/util/function/BiFunction;)I"⟩
def RL : String := "StrokesHeardLaw"
abbrev cL_law : ByteArray := code
def yL_law : MethodName := ⟨RL, "law", "([I)Z"⟩
abbrev vwCl : List vw_C := [(RX0, TX0, 3), (RX1, TX1, 6), (RX2, TX2, 14), (RX3, TX3, 3), (RX4, TX4, 4), (RX5, TX5, 4), (RX6, TX6, 9), (RX7, TX7, 6), (RX8, TX8, 13), (RX9, TX9, 32)]
end
section
/-! THE PURE WORLD: cells numbered from 0 on in the order of their making, the first at the address gb g; a kind and a length each; what ints and what references they hold -/
abbrev Cx : Type := Launch × Nat × va_G × (Nat → ClassId) × (Nat → Nat)
def gl (g : Cx) : Launch := g.1
def gb (g : Cx) : Nat := g.2.1
def gD (g : Cx) : va_G := g.2.2.1
def gc (g : Cx) : Nat → ClassId := g.2.2.2.1
def gx (g : Cx) : Nat → Nat := g.2.2.2.2
def gA (g : Cx) : Nat → Prop := fun q => gb g ≤ q
abbrev Wd : Type := Nat × (Nat → Nat × Nat) × (Nat → Nat → Int32) × (Nat → Nat → Option Nat)
def wn (w : Wd) : Nat := w.1
def wsh (w : Wd) : Nat → Nat × Nat := w.2.1
def wI (w : Wd) : Nat → Nat → Int32 := w.2.2.1
def wF (w : Wd) : Nat → Nat → Option Nat := w.2.2.2
/-- the ints of cell a become f; its references become f; one more cell of a kind and a length, all 0, null -/
def sR (w : Wd) (a : Nat) (f : Nat → Int32) : Wd := (w.1, w.2.1, fun i => if i = a then f else w.2.2.1 i, w.2.2.2)
def sP (w : Wd) (a : Nat) (f : Nat → Option Nat) : Wd := (w.1, w.2.1, w.2.2.1, fun i => if i = a then f else w.2.2.2 i)
def pN (w : Wd) (kd n : Nat) : Wd := (w.1 + 1, fun i => if i = w.1 then (kd, n) else w.2.1 i, fun i => if i = w.1 then (fun _ => 0) else w.2.2.1 i, fun i => if i = w.1 then (fun _ => none) else w.2.2.2 i)
def jK (w : Wd) (a kd n : Nat) : Prop := a < wn w ∧ wsh w a = (kd, n)
def uF (f : Nat → Option Nat) (k : Nat) (x : Option Nat) : Nat → Option Nat := fun j => if j = k then x else f j
theorem wn_sR (w : Wd) (a : Nat) (f : Nat → Int32) : wn (sR w a f) = wn w := rfl
theorem wsh_sR (w : Wd) (a : Nat) (f : Nat → Int32) : wsh (sR w a f) = wsh w := rfl
theorem wF_sR (w : Wd) (a : Nat) (f : Nat → Int32) : wF (sR w a f) = wF w := rfl
theorem wI_sR (w : Wd) (a : Nat) (f : Nat → Int32) (i : Nat) : wI (sR w a f) i = if i = a then f else wI w i := rfl
theorem wI_sR_s (w : Wd) (a : Nat) (f : Nat → Int32) : wI (sR w a f) a = f := by rw [wI_sR, if_pos rfl]
theorem wI_sR_n (w : Wd) {a i : Nat} (h : i ≠ a) (f : Nat → Int32) : wI (sR w a f) i = wI w i := by rw [wI_sR, if_neg h]
theorem wn_sP (w : Wd) (a : Nat) (f : Nat → Option Nat) : wn (sP w a f) = wn w := rfl
theorem wsh_sP (w : Wd) (a : Nat) (f : Nat → Option Nat) : wsh (sP w a f) = wsh w := rfl
theorem wI_sP (w : Wd) (a : Nat) (f : Nat → Option Nat) : wI (sP w a f) = wI w := rfl
theorem wF_sP (w : Wd) (a : Nat) (f : Nat → Option Nat) (i : Nat) : wF (sP w a f) i = if i = a then f else wF w i := rfl
theorem wF_sP_s (w : Wd) (a : Nat) (f : Nat → Option Nat) : wF (sP w a f) a = f := by rw [wF_sP, if_pos rfl]
theorem wF_sP_n (w : Wd) {a i : Nat} (h : i ≠ a) (f : Nat → Option Nat) : wF (sP w a f) i = wF w i := by rw [wF_sP, if_neg h]
theorem wn_pN (w : Wd) (kd n : Nat) : wn (pN w kd n) = wn w + 1 := rfl
theorem wsh_pN (w : Wd) (kd n i : Nat) : wsh (pN w kd n) i = if i = wn w then (kd, n) else wsh w i := rfl
theorem wI_pN (w : Wd) (kd n i : Nat) : wI (pN w kd n) i = if i = wn w then (fun _ => 0) else wI w i := rfl
theorem wF_pN (w : Wd) (kd n i : Nat) : wF (pN w kd n) i = if i = wn w then (fun _ => none) else wF w i := rfl
theorem jK.sR {w : Wd} {a kd n : Nat} (h : jK w a kd n) (b : Nat) (f : Nat → Int32) : jK (sR w b f) a kd n := h
theorem jK.sP {w : Wd} {a kd n : Nat} (h : jK w a kd n) (b : Nat) (f : Nat → Option Nat) : jK (sP w b f) a kd n := h
theorem jK.pN {w : Wd} {a kd n : Nat} (h : jK w a kd n) (kd' n' : Nat) : jK (pN w kd' n') a kd n := by
  obtain ⟨h1, h2⟩ := h
  refine ⟨by rw [wn_pN]; omega, ?_⟩
  rw [wsh_pN, if_neg (by omega)]
  exact h2
theorem jK_new (w : Wd) (kd n : Nat) : jK (pN w kd n) (wn w) kd n := ⟨by rw [wn_pN]; omega, by rw [wsh_pN, if_pos rfl]⟩
def jrf (g : Cx) (x : Option Nat) : Value := va_rf (x.map (fun i => gb g + i))
def jfs (ci : Nat) (I : Nat → Int32) (F : Nat → Value) : List Value := match ci with
  | 0 => [.int (I 0), .int (I 1), .int (I 2)]
  | 1 => [F 0, F 1, .int (I 2), .int (I 3), .int (I 4), .int (I 5)]
  | 2 => [F 0, .int (I 1), .int (I 2), .int (I 3), .int (I 4), .int (I 5), .int (I 6), .int (I 7), .int (I 8), F 9, .int (I 10), F 11, .int (I 12), F 13]
  | 3 => [.int (I 0), .int (I 1), F 2]
  | 4 => [.int (I 0), F 1, F 2, .int (I 3)]
  | 5 => [.int (I 0), .int (I 1), F 2, F 3]
  | 6 => [F 0, .int (I 1), .int (I 2), .int (I 3), .int (I 4), .int (I 5), .int (I 6), F 7, .int (I 8)]
  | 7 => [F 0, F 1, F 2, F 3, F 4, .int (I 5)]
  | 8 => [F 0, F 1, F 2, .int (I 3), F 4, F 5, F 6, F 7, .int (I 8), F 9, .int (I 10), F 11, F 12]
  | 9 => [F 0, F 1, F 2, .int (I 3), F 4, F 5, F 6, F 7, F 8, F 9, F 10, F 11, F 12, F 13, F 14, .int (I 15), .int (I 16), .int (I 17), .int (I 18), .int (I 19), .int (I 20), .int (I 21), .int (I 22), .int (I 23), .int (I 24), .int (I 25), F 26, F 27, F 28, F 29, .int (I 30), F 31]
  | _ => []
def cE (g : Cx) (w : Wd) (i : Nat) : va_E :=
  if (wsh w i).1 < 10 then .inr ((wsh w i).1, jfs (wsh w i).1 (wI w i) (fun k => jrf g (wF w i k)))
  else if (wsh w i).1 < 12 then .inl (gc g ((wsh w i).1 - 10), (wsh w i).2, .inl (wI w i))
  else .inl (gc g ((wsh w i).1 - 10), (wsh w i).2, .inr (.inr (.inr (.inr (fun j => (wF w i j).map (fun i => gb g + i))))))
def wl (g : Cx) (w : Wd) : va_W := (List.range (wn w)).map (fun i => (gb g + i, cE g w i))
theorem wl_at (g : Cx) (w : Wd) {i : Nat} (h : i < wn w) : (wl g w)[i]? = some (gb g + i, cE g w i) := by
  simp [wl, h]
theorem wl_of {g : Cx} {w : Wd} {i : Nat} {q : Nat × va_E} (h : (wl g w)[i]? = some q) : i < wn w ∧ q = (gb g + i, cE g w i) := by
  have hl : i < (wl g w).length := (List.getElem?_eq_some_iff.mp h).1
  have hi : i < wn w := by simpa [wl] using hl
  rw [wl_at g w hi] at h
  exact ⟨hi, (Option.some.inj h).symm⟩
theorem wl_D (g : Cx) (w : Wd) : va_D (gA g) (wl g w) := by
  refine ⟨fun i j p q hi hj hpq => ?_, fun k q hk => ?_⟩
  · obtain ⟨-, rfl⟩ := wl_of hi
    obtain ⟨-, rfl⟩ := wl_of hj
    simp only at hpq
    omega
  · obtain ⟨-, rfl⟩ := wl_of hk
    exact Nat.le_add_right _ _
theorem wl_len (g : Cx) (w : Wd) : (wl g w).length = wn w := by simp [wl]
theorem wl_set {g : Cx} {w w' : Wd} {a : Nat} {e : va_E} (ha : a < wn w) (hn : wn w' = wn w) (he : cE g w' a = e) (ho : ∀ i, i ≠ a → cE g w' i = cE g w i) : (wl g w).set a (gb g + a, e) = wl g w' := by
  apply List.ext_getElem?
  intro i
  by_cases hi : i < wn w
  · by_cases hia : i = a
    · subst hia
      rw [List.getElem?_set_self (by rw [wl_len]; exact hi), wl_at g w' (by rw [hn]; exact hi), he]
    · rw [List.getElem?_set_ne (Ne.symm hia), wl_at g w hi, wl_at g w' (by rw [hn]; exact hi), ho i hia]
  · rw [List.getElem?_eq_none (by rw [List.length_set, wl_len]; omega), List.getElem?_eq_none (by rw [wl_len, hn]; omega)]
theorem wl_push {g : Cx} {w : Wd} {kd n : Nat} {e : va_E} (he : cE g (pN w kd n) (wn w) = e) : wl g w ++ [(gb g + wn w, e)] = wl g (pN w kd n) := by
  apply List.ext_getElem?
  intro i
  by_cases hi : i < wn w
  · rw [List.getElem?_append_left (by rw [wl_len]; exact hi), wl_at g w hi, wl_at g _ (by rw [wn_pN]; omega)]
    congr 2
    simp only [cE, wsh_pN, wI_pN, wF_pN, if_neg (Nat.ne_of_lt hi)]
  · by_cases hia : i = wn w
    · subst hia
      rw [List.getElem?_append_right (by rw [wl_len]; exact Nat.le_refl _), wl_len, Nat.sub_self, wl_at g _ (by rw [wn_pN]; omega), he]
      rfl
    · rw [List.getElem?_eq_none (by rw [List.length_append, wl_len, List.length_singleton]; omega), List.getElem?_eq_none (by rw [wl_len, wn_pN]; omega)]
theorem cE_obj {g : Cx} {w : Wd} {a ci : Nat} (h : jK w a ci 0) (hc : ci < 10) : cE g w a = .inr (ci, jfs ci (wI w a) (fun k => jrf g (wF w a k))) := by
  simp only [cE, h.2, if_pos hc]
theorem cE_int {g : Cx} {w : Wd} {a kd n : Nat} (h : jK w a kd n) (h1 : ¬ kd < 10) (h2 : kd < 12) : cE g w a = .inl (gc g (kd - 10), n, .inl (wI w a)) := by
  simp only [cE, h.2, if_neg h1, if_pos h2]
theorem cE_ref {g : Cx} {w : Wd} {a kd n : Nat} (h : jK w a kd n) (h1 : ¬ kd < 10) (h2 : ¬ kd < 12) : cE g w a = .inl (gc g (kd - 10), n, .inr (.inr (.inr (.inr (fun j => (wF w a j).map (fun i => gb g + i)))))) := by
  simp only [cE, h.2, if_neg h1, if_neg h2]
theorem cE_sR_o {g : Cx} {w : Wd} {a i : Nat} {f : Nat → Int32} (h : i ≠ a) : cE g (sR w a f) i = cE g w i := by
  simp only [cE, wsh_sR, wF_sR, wI_sR_n w h]
theorem cE_sP_o {g : Cx} {w : Wd} {a i : Nat} {f : Nat → Option Nat} (h : i ≠ a) : cE g (sP w a f) i = cE g w i := by
  simp only [cE, wsh_sP, wI_sP, wF_sP_n w h]
/-! the words that every method is given, and what else a state must know -/
def kw : List Cond := lw_tbl.filter goodWord
theorem kw_in {w : Cond} (h : w ∈ lw_tbl) (hg : goodWord w = true) : w ∈ kw := List.mem_filter.mpr ⟨h, hg⟩
theorem kw_good (y : MethodName) (b : ByteArray) (n : Nat) (r : Option FieldType) (h : Cond.code y b n r ∈ kw) : GoodIn kw (Cond.code y b n r :: kw) := by
  intro w hw
  have hm : w ∈ kw := by
    rcases List.mem_cons.mp hw with e | e
    · rw [e]; exact h
    · exact e
  exact ⟨hm, good_of_word (List.mem_filter.mp hm).2⟩
def kcl : List vw_C := vwCl
def jtys (g : Cx) : List (ClassId × FieldType) := [(gc g 0, .byte), (gc g 1, .int), (gc g 2, .object RX0), (gc g 3, .object RX3), (gc g 4, .object RX4), (gc g 5, .object RX5)]
def jnest : List (String × Nat × MethodName × String) := [(RX2, 62, yX0_init, "StrokesHeard"), (RX8, 28, yX1_init, "StrokesHeard"), (RX8, 35, yX7_init, "StrokesHeard"), (RX8, 42, yX6_init, "StrokesHeard"), (RX8, 74, yX3_init, "StrokesHeard"), (RX8, 75, yX4_init, "StrokesHeard"), (RX4, 17, yX0_init, "StrokesHeard"), (RX4, 24, yX3_init, "StrokesHeard"), (RX2, 73, yX8_within, "StrokesHeard"), (RX2, 111, yX8_isUnder, "StrokesHeard"), (RX2, 102, yX8_held, "StrokesHeard"), (RX2, 118, yX8_strokesWithin, "StrokesHeard"), (RX1, 59, yX8_isUnder, "StrokesHeard"), (RX1, 67, yX8_strokesWithin, "StrokesHeard"), (RX1, 88, yX8_held, "StrokesHeard"), (RX3, 38, yX8_within, "StrokesHeard"), (RX3, 22, yX8_held, "StrokesHeard")]
def jarr : List String := [RX0, RX3, RX4, RX5]
def jlens : List Nat := [5, 3, 4, 3, 2, 2, 2, 2, 3]
def jbyts : List (List Int32) := [[97, 103, 97, 105, 110], [102, 101, 101], [102, 105, 110, 101], [111, 116, 104], [101, 109], [111, 116], [42, 47], [43, 45], [60, 61, 62]]
def jstr : List (Nat × String) := [(89, "again"), (95, "fee"), (97, "fine"), (134, "oth"), (136, "em"), (138, "ot"), (126, "*/"), (121, "+-"), (112, "<=>")]
def jabv (j : Nat) : Int32 := ([-1, 0, 0, 1, 2, 0] : List Int32).getD j 0
/-- what a state knows beyond the words: the classes, the static row ABOVE, the String constants, the nest's links -/
def GS (g : Cx) (s : State) : Prop :=
  va_K (gD g) kcl (jtys g) s ∧ gb g ≤ s.heap.size ∧
  va_Z "StrokesHeard" "ABOVE" "[I" (.ref (gx g 0)) (gA g) s s.heap ∧ va_T .int (gx g 0) 6 (fun j => .int (jabv j)) (gA g) s s.heap ∧
  va_Z "java/lang/String" "COMPACT_STRINGS" "Z" (.int 1) (gA g) s s.heap ∧ va_Zq "jdk/internal/util/Preconditions" "SIOOBE_FORMATTER" "Ljava/util/function/BiFunction;" (gA g) s s.heap ∧
  vk_S 9 jlens jbyts (fun i => gx g (1 + i)) (fun i => gx g (10 + i)) (gA g) s s.heap ∧ (∀ i q, jstr[i]? = some q → vk_R RX6 q.1 q.2 (gx g (1 + i)) s) ∧
  (∀ q ∈ jnest, va_Nw (.methodLinkNest q.1 q.2.1 q.2.2.1 q.2.2.2) s) ∧ ∀ C ∈ jarr, va_AO C s
theorem GS.to {g : Cx} {s U : State} {H : Heap} {locs : List Loc} (h : GS g s) (hW : s.WarmedH U.vm) (hS : va_S (gA g) s.heap H locs) (hU : U.heap = H) : GS g U := by
  obtain ⟨h1, h2, h3, h4, h5, h6, h7, h8, h9, h10⟩ := h
  have hk : ∀ a : Nat, a < s.heap.size → ¬ gA g a → U.heap[a]? = s.heap[a]? := fun a ha hn => by rw [hU]; exact hS.2.1 a ha hn
  have ha := hW.alike
  exact ⟨va_K.moved ha h1, by rw [hU]; exact Nat.le_trans h2 hS.1, (va_Z.moved ha h3).kept hk, (va_T.moved ha h4).kept hk, (va_Z.moved ha h5).kept hk, (va_Zq.moved ha h6).kept hk, (vk_S.moved ha h7).kept hk, fun i q hq => vk_R.warm hW (h8 i q hq), fun q hq => va_Nw.warmM hW (h9 q hq), fun C hC => va_AO.moved ha (h10 C hC)⟩
theorem GS.calling {g : Cx} {U : State} (h : GS g U) (f : JFrame) (mk : MethodId) (a : Array Value) : GS g (U.calling f mk a) := by
  obtain ⟨h1, h2, h3, h4, h5, h6, h7, h8, h9, h10⟩ := h
  have ha : U.vm.Alike (U.calling f mk a).vm := Vm.Alike.refl U.vm
  exact ⟨va_K.moved ha h1, h2, va_Z.moved ha h3, va_T.moved ha h4, va_Z.moved ha h5, va_Zq.moved ha h6, vk_S.moved ha h7, fun i q hq => vk_R.same (u := U) rfl (h8 i q hq), fun q hq => va_Nw.same (u := U) rfl rfl (h9 q hq), fun C hC => va_AO.moved ha (h10 C hC)⟩
/-! runs -/
def jrm (d kc ks : Nat) : Room := { frames := d, cells := kc, slots := ks, locals := 40 * d }
def jasc : Nat → List (Option Value) → List (Nat × Value)
  | _, [] => []
  | i, none :: l => jasc (i + 1) l
  | i, some v :: l => (i, v) :: jasc (i + 1) l
def JX (g : Cx) (own : String) (cc : ByteArray) (nL : Nat) (ret : Option FieldType) (nm : String) (p : Program) (s : State) (m : MethodId) (args : Array Value) (meth : Method) (c : Code) : Prop :=
  CallFix p m c cc nL s args kw own ∧ meth.sig.returnType = ret ∧ meth.locks = false ∧ meth.name = nm ∧ GS g s
def Rp (g : Cx) (w : Wd) (s : State) (H : Heap) (locs : List Loc) : Prop := H.size = gb g + wn w ∧ va_P (gD g) kcl (wl g w) H ∧ va_S (gA g) s.heap H locs
def QQ (g : Cx) (Q : Option Value → Wd → Prop) : Array Value → State → Outcome → State → Prop := fun _ st oc t =>
  (∃ v w', oc = .returned v ∧ Q v w' ∧ t.heap.size = gb g + wn w' ∧ va_P (gD g) kcl (wl g w') t.heap) ∧ va_F (gA g) st t
def RR (g : Cx) (own : String) (cc : ByteArray) (nL : Nat) (ret : Option FieldType) (nm : String) (d kc ks rk rn pc : Nat) (lv : List (Option Value)) (st : List Value) (w : Wd) (Q : Option Value → Wd → Prop) : Prop :=
  ∀ (p : Program) (e : Env) (s : State) (m : MethodId) (args : Array Value) (below : List Frame) (meth : Method) (c : Code) (H : Heap) (locs : List Loc) (cells slots : Nat) (ls : Array Slot),
    JX g own cc nL ret nm p s m args meth c → Rp g w s H locs → cells + rk ≤ kc → slots + rn ≤ ks → lv_has ls nL (jasc 0 lv) →
    W p (gl g) e (jrm d kc ks) s m args below meth c H locs cells slots (MQ below (QQ g Q) args s kc ks (gA g)) (F0 m pc ls st)
/-- a method's contract over the pure world -/
def CC (g : Cx) (y : MethodName) (cc : ByteArray) (nL : Nat) (ret : Option FieldType) (d kc ks : Nat) (av : List Value) (w : Wd) (Q : Option Value → Wd → Prop) : Prop :=
  Met (gl g) y (Cond.code y cc nL ret :: kw) (jrm d kc ks) (va_Pc av (fun U => GS g U ∧ U.heap.size = gb g + wn w ∧ va_P (gD g) kcl (wl g w) U.heap)) (QQ g Q) kc ks (gA g)
def CI (g : Cx) (y : MethodName) (cc : ByteArray) (nL : Nat) (ret : Option FieldType) (d kc ks : Nat) (av : List Value) (w : Wd) (Q : Int32 → Wd → Prop) : Prop := CC g y cc nL ret d kc ks av w (fun v w' => ∃ r, v = some (.int r) ∧ Q r w')
def CV (g : Cx) (y : MethodName) (cc : ByteArray) (nL : Nat) (d kc ks : Nat) (av : List Value) (w : Wd) (Q : Wd → Prop) : Prop := CC g y cc nL none d kc ks av w (fun v w' => v = none ∧ Q w')
def CR (g : Cx) (y : MethodName) (cc : ByteArray) (nL : Nat) (ret : Option FieldType) (d kc ks : Nat) (av : List Value) (w : Wd) (Q : Value → Wd → Prop) : Prop := CC g y cc nL ret d kc ks av w (fun v w' => ∃ r, v = some r ∧ Q r w')
theorem jasc_mem {n : Nat} {lv : List (Option Value)} {i : Nat} {v : Value} (h : lv[i]? = some (some v)) : (n + i, v) ∈ jasc n lv := by
  induction lv generalizing n i with
  | nil => simp at h
  | cons a l ih =>
    cases i with
    | zero =>
      simp at h
      subst h
      simp [jasc]
    | succ i =>
      simp at h
      have := ih (n := n + 1) h
      rw [show n + 1 + i = n + (i + 1) by omega] at this
      cases a with
      | none => simpa [jasc] using this
      | some u => simp [jasc, this]
theorem jasc_of {n : Nat} {lv : List (Option Value)} {q : Nat × Value} (h : q ∈ jasc n lv) : n ≤ q.1 ∧ lv[q.1 - n]? = some (some q.2) := by
  induction lv generalizing n with
  | nil => simp [jasc] at h
  | cons a l ih =>
    cases a with
    | none =>
      obtain ⟨h1, h2⟩ := ih (n := n + 1) (by simpa [jasc] using h)
      refine ⟨by omega, ?_⟩
      rw [show q.1 - n = (q.1 - (n + 1)) + 1 by omega]
      simpa using h2
    | some u =>
      rcases List.mem_cons.mp (by simpa [jasc] using h) with e | e
      · subst e; simp
      · obtain ⟨h1, h2⟩ := ih (n := n + 1) e
        refine ⟨by omega, ?_⟩
        rw [show q.1 - n = (q.1 - (n + 1)) + 1 by omega]
        simpa using h2
theorem jat {ls : Array Slot} {nL : Nat} {lv : List (Option Value)} (h : lv_has ls nL (jasc 0 lv)) {i : Nat} {v : Value} (hi : lv[i]? = some (some v)) : ls[i]? = some (.val v) := by
  have h1 := jasc_mem (n := 0) hi
  rw [Nat.zero_add] at h1
  exact h.2.2 (i, v) h1
def jc1 : Option Value → Bool
  | none => true
  | some v => v.category == 1
theorem jstore {ls : Array Slot} {nL i : Nat} {lv : List (Option Value)} {v : Value} (hc : ∀ k, k + 1 = i → jc1 (lv.getD k none) = true) (h : lv_has ls nL ((i, v) :: (jasc 0 lv).filter (fun q => !(q.1 == i) && !(q.1 + 1 == i && q.2.category == 2)))) : lv_has ls nL (jasc 0 (lv.set i (some v))) := by
  refine ⟨h.1, h.2.1, fun q hq => ?_⟩
  obtain ⟨-, h1⟩ := jasc_of hq
  rw [Nat.sub_zero] at h1
  by_cases he : i = q.1
  · subst he
    have hl : q.1 < lv.length := by
      have := (List.getElem?_eq_some_iff.mp h1).1
      simpa using this
    rw [List.getElem?_set_self hl] at h1
    have h2 : v = q.2 := by simpa using h1
    have := h.2.2 (q.1, v) List.mem_cons_self
    rw [h2] at this
    exact this
  · rw [List.getElem?_set_ne he] at h1
    apply h.2.2
    refine List.mem_cons_of_mem _ (List.mem_filter.mpr ⟨by have := jasc_mem (n := 0) h1; rw [Nat.zero_add] at this; exact this, ?_⟩)
    have e1 : (q.1 == i) = false := by simpa using Ne.symm he
    have e2 : (q.1 + 1 == i && q.2.category == 2) = false := by
      by_cases h3 : q.1 + 1 = i
      · have h4 := hc q.1 h3
        rw [List.getD_eq_getElem?_getD, h1] at h4
        simp only [Option.getD_some, jc1] at h4
        simp at h4
        simp [h4]
      · have : (q.1 + 1 == i) = false := by simpa using h3
        rw [this]; rfl
    rw [e1, e2]; rfl
end
section
section
variable {g : Cx} {own : String} {cc : ByteArray} {nL : Nat} {ret : Option FieldType} {nm : String} {d kc ks rk rn pc : Nat} {lv : List (Option Value)} {st : List Value} {w : Wd} {Q : Option Value → Wd → Prop}
theorem jr_iadd {x y : Int32} (hd : decode cc pc = .ok (.iadd, 1))  (K : RR g own cc nL ret nm d kc ks rk rn (pc + 1) lv (.int (x + y) :: st) w Q) : RR g own cc nL ret nm d kc ks rk rn pc lv (.int y :: .int x :: st) w Q :=
  fun p e s m args below meth c H locs cells slots ls hj hr h1 h2 hl => lv_iadd hj.1.1 hj.1.2.1 hd  (K p e s m args below meth c H locs cells slots ls hj hr h1 h2 hl)
theorem jr_isub {x y : Int32} (hd : decode cc pc = .ok (.isub, 1))  (K : RR g own cc nL ret nm d kc ks rk rn (pc + 1) lv (.int (x - y) :: st) w Q) : RR g own cc nL ret nm d kc ks rk rn pc lv (.int y :: .int x :: st) w Q :=
  fun p e s m args below meth c H locs cells slots ls hj hr h1 h2 hl => lv_isub hj.1.1 hj.1.2.1 hd  (K p e s m args below meth c H locs cells slots ls hj hr h1 h2 hl)
theorem jr_imul {x y : Int32} (hd : decode cc pc = .ok (.imul, 1))  (K : RR g own cc nL ret nm d kc ks rk rn (pc + 1) lv (.int (x * y) :: st) w Q) : RR g own cc nL ret nm d kc ks rk rn pc lv (.int y :: .int x :: st) w Q :=
  fun p e s m args below meth c H locs cells slots ls hj hr h1 h2 hl => lv_imul hj.1.1 hj.1.2.1 hd  (K p e s m args below meth c H locs cells slots ls hj hr h1 h2 hl)
theorem jr_iand {x y : Int32} (hd : decode cc pc = .ok (.iand, 1))  (K : RR g own cc nL ret nm d kc ks rk rn (pc + 1) lv (.int (x &&& y) :: st) w Q) : RR g own cc nL ret nm d kc ks rk rn pc lv (.int y :: .int x :: st) w Q :=
  fun p e s m args below meth c H locs cells slots ls hj hr h1 h2 hl => lv_iand hj.1.1 hj.1.2.1 hd  (K p e s m args below meth c H locs cells slots ls hj hr h1 h2 hl)
theorem jr_ior {x y : Int32} (hd : decode cc pc = .ok (.ior, 1))  (K : RR g own cc nL ret nm d kc ks rk rn (pc + 1) lv (.int (x ||| y) :: st) w Q) : RR g own cc nL ret nm d kc ks rk rn pc lv (.int y :: .int x :: st) w Q :=
  fun p e s m args below meth c H locs cells slots ls hj hr h1 h2 hl => lv_ior hj.1.1 hj.1.2.1 hd  (K p e s m args below meth c H locs cells slots ls hj hr h1 h2 hl)
theorem jr_ixor {x y : Int32} (hd : decode cc pc = .ok (.ixor, 1))  (K : RR g own cc nL ret nm d kc ks rk rn (pc + 1) lv (.int (x ^^^ y) :: st) w Q) : RR g own cc nL ret nm d kc ks rk rn pc lv (.int y :: .int x :: st) w Q :=
  fun p e s m args below meth c H locs cells slots ls hj hr h1 h2 hl => lv_ixor hj.1.1 hj.1.2.1 hd  (K p e s m args below meth c H locs cells slots ls hj hr h1 h2 hl)
theorem jr_ishl {x y : Int32} (hd : decode cc pc = .ok (.ishl, 1))  (K : RR g own cc nL ret nm d kc ks rk rn (pc + 1) lv (.int (x <<< (y &&& 31)) :: st) w Q) : RR g own cc nL ret nm d kc ks rk rn pc lv (.int y :: .int x :: st) w Q :=
  fun p e s m args below meth c H locs cells slots ls hj hr h1 h2 hl => lv_ishl hj.1.1 hj.1.2.1 hd  (K p e s m args below meth c H locs cells slots ls hj hr h1 h2 hl)
theorem jr_ishr {x y : Int32} (hd : decode cc pc = .ok (.ishr, 1))  (K : RR g own cc nL ret nm d kc ks rk rn (pc + 1) lv (.int (x >>> (y &&& 31)) :: st) w Q) : RR g own cc nL ret nm d kc ks rk rn pc lv (.int y :: .int x :: st) w Q :=
  fun p e s m args below meth c H locs cells slots ls hj hr h1 h2 hl => lv_ishr hj.1.1 hj.1.2.1 hd  (K p e s m args below meth c H locs cells slots ls hj hr h1 h2 hl)
theorem jr_idiv {x y : Int32} (hd : decode cc pc = .ok (.idiv, 1)) (hne : ¬ y = 0) (K : RR g own cc nL ret nm d kc ks rk rn (pc + 1) lv (.int (x / y) :: st) w Q) : RR g own cc nL ret nm d kc ks rk rn pc lv (.int y :: .int x :: st) w Q :=
  fun p e s m args below meth c H locs cells slots ls hj hr h1 h2 hl => lv_idiv hj.1.1 hj.1.2.1 hd hne (K p e s m args below meth c H locs cells slots ls hj hr h1 h2 hl)
theorem jr_irem {x y : Int32} (hd : decode cc pc = .ok (.irem, 1)) (hne : ¬ y = 0) (K : RR g own cc nL ret nm d kc ks rk rn (pc + 1) lv (.int (x - x / y * y) :: st) w Q) : RR g own cc nL ret nm d kc ks rk rn pc lv (.int y :: .int x :: st) w Q :=
  fun p e s m args below meth c H locs cells slots ls hj hr h1 h2 hl => lv_irem hj.1.1 hj.1.2.1 hd hne (K p e s m args below meth c H locs cells slots ls hj hr h1 h2 hl)
theorem jr_iushr {x y : Int32} (hd : decode cc pc = .ok (.iushr, 1))  (K : RR g own cc nL ret nm d kc ks rk rn (pc + 1) lv (.int (x.toUInt32 >>> (y.toUInt32 &&& Int32.toUInt32 31)).toInt32 :: st) w Q) : RR g own cc nL ret nm d kc ks rk rn pc lv (.int y :: .int x :: st) w Q :=
  fun p e s m args below meth c H locs cells slots ls hj hr h1 h2 hl => lv_iushr hj.1.1 hj.1.2.1 hd rfl (K p e s m args below meth c H locs cells slots ls hj hr h1 h2 hl)
theorem jr_ineg {x : Int32} (hd : decode cc pc = .ok (.ineg, 1))  (K : RR g own cc nL ret nm d kc ks rk rn (pc + 1) lv (.int (-x) :: st) w Q) : RR g own cc nL ret nm d kc ks rk rn pc lv (.int x :: st) w Q :=
  fun p e s m args below meth c H locs cells slots ls hj hr h1 h2 hl => lv_ineg hj.1.1 hj.1.2.1 hd  (K p e s m args below meth c H locs cells slots ls hj hr h1 h2 hl)
theorem jr_i2l {x : Int32} (hd : decode cc pc = .ok (.i2l, 1))  (K : RR g own cc nL ret nm d kc ks rk rn (pc + 1) lv (.long x.toInt64 :: st) w Q) : RR g own cc nL ret nm d kc ks rk rn pc lv (.int x :: st) w Q :=
  fun p e s m args below meth c H locs cells slots ls hj hr h1 h2 hl => lv_i2l hj.1.1 hj.1.2.1 hd rfl (K p e s m args below meth c H locs cells slots ls hj hr h1 h2 hl)
theorem jr_i2b {x : Int32} (hd : decode cc pc = .ok (.i2b, 1))  (K : RR g own cc nL ret nm d kc ks rk rn (pc + 1) lv (.int x.toInt8.toInt32 :: st) w Q) : RR g own cc nL ret nm d kc ks rk rn pc lv (.int x :: st) w Q :=
  fun p e s m args below meth c H locs cells slots ls hj hr h1 h2 hl => lv_i2b hj.1.1 hj.1.2.1 hd rfl (K p e s m args below meth c H locs cells slots ls hj hr h1 h2 hl)
theorem jr_i2s {x : Int32} (hd : decode cc pc = .ok (.i2s, 1))  (K : RR g own cc nL ret nm d kc ks rk rn (pc + 1) lv (.int x.toInt16.toInt32 :: st) w Q) : RR g own cc nL ret nm d kc ks rk rn pc lv (.int x :: st) w Q :=
  fun p e s m args below meth c H locs cells slots ls hj hr h1 h2 hl => lv_i2s hj.1.1 hj.1.2.1 hd rfl (K p e s m args below meth c H locs cells slots ls hj hr h1 h2 hl)
theorem jr_i2c {x : Int32} (hd : decode cc pc = .ok (.i2c, 1))  (K : RR g own cc nL ret nm d kc ks rk rn (pc + 1) lv (.int (x.toUInt32 % 65536).toInt32 :: st) w Q) : RR g own cc nL ret nm d kc ks rk rn pc lv (.int x :: st) w Q :=
  fun p e s m args below meth c H locs cells slots ls hj hr h1 h2 hl => lv_i2c hj.1.1 hj.1.2.1 hd rfl (K p e s m args below meth c H locs cells slots ls hj hr h1 h2 hl)
theorem jr_ladd {x y : Int64} (hd : decode cc pc = .ok (.ladd, 1))  (K : RR g own cc nL ret nm d kc ks rk rn (pc + 1) lv (.long (x + y) :: st) w Q) : RR g own cc nL ret nm d kc ks rk rn pc lv (.long y :: .long x :: st) w Q :=
  fun p e s m args below meth c H locs cells slots ls hj hr h1 h2 hl => lv_ladd hj.1.1 hj.1.2.1 hd  (K p e s m args below meth c H locs cells slots ls hj hr h1 h2 hl)
theorem jr_lcmp {x y : Int64} (hd : decode cc pc = .ok (.lcmp, 1))  (K : RR g own cc nL ret nm d kc ks rk rn (pc + 1) lv (.int (lg_cmp x y) :: st) w Q) : RR g own cc nL ret nm d kc ks rk rn pc lv (.long y :: .long x :: st) w Q :=
  fun p e s m args below meth c H locs cells slots ls hj hr h1 h2 hl => W.lcmp hj.1.1 hj.1.2.1 hd  (K p e s m args below meth c H locs cells slots ls hj hr h1 h2 hl)
theorem jr_dup {v : Value} (hd : decode cc pc = .ok (.dup, 1)) (hv : v.category = 1) (K : RR g own cc nL ret nm d kc ks rk rn (pc + 1) lv (v :: v :: st) w Q) : RR g own cc nL ret nm d kc ks rk rn pc lv (v :: st) w Q :=
  fun p e s m args below meth c H locs cells slots ls hj hr h1 h2 hl => lv_dup hj.1.1 hj.1.2.1 hd hv (K p e s m args below meth c H locs cells slots ls hj hr h1 h2 hl)
theorem jr_pop {v : Value} (hd : decode cc pc = .ok (.pop, 1)) (hv : v.category = 1) (K : RR g own cc nL ret nm d kc ks rk rn (pc + 1) lv st w Q) : RR g own cc nL ret nm d kc ks rk rn pc lv (v :: st) w Q :=
  fun p e s m args below meth c H locs cells slots ls hj hr h1 h2 hl => lv_pop hj.1.1 hj.1.2.1 hd hv (K p e s m args below meth c H locs cells slots ls hj hr h1 h2 hl)
theorem jr_dup2 {v u : Value} (hd : decode cc pc = .ok (.dup2, 1)) (hv : v.category = 1) (hu : u.category = 1) (K : RR g own cc nL ret nm d kc ks rk rn (pc + 1) lv (v :: u :: v :: u :: st) w Q) : RR g own cc nL ret nm d kc ks rk rn pc lv (v :: u :: st) w Q :=
  fun p e s m args below meth c H locs cells slots ls hj hr h1 h2 hl => lv_dup2_11 hj.1.1 hj.1.2.1 hd hv hu (K p e s m args below meth c H locs cells slots ls hj hr h1 h2 hl)
theorem jr_null  (hd : decode cc pc = .ok (.aconst_null, 1))  (K : RR g own cc nL ret nm d kc ks rk rn (pc + 1) lv (.null :: st) w Q) : RR g own cc nL ret nm d kc ks rk rn pc lv st w Q :=
  fun p e s m args below meth c H locs cells slots ls hj hr h1 h2 hl => lv_null hj.1.1 hj.1.2.1 hd  (K p e s m args below meth c H locs cells slots ls hj hr h1 h2 hl)
theorem jr_iconst {n : Int} (v : Int32) (hd : decode cc pc = .ok (.iconst n, 1)) (hv : Int32.ofInt n = v) (K : RR g own cc nL ret nm d kc ks rk rn (pc + 1) lv (.int v :: st) w Q) : RR g own cc nL ret nm d kc ks rk rn pc lv st w Q :=
  fun p e s m args below meth c H locs cells slots ls hj hr h1 h2 hl => lv_iconst hj.1.1 hj.1.2.1 hd hv (K p e s m args below meth c H locs cells slots ls hj hr h1 h2 hl)
theorem jr_bipush {n : Int} (v : Int32) (hd : decode cc pc = .ok (.bipush n, 2)) (hv : (Int8.ofInt n).toInt32 = v) (K : RR g own cc nL ret nm d kc ks rk rn (pc + 2) lv (.int v :: st) w Q) : RR g own cc nL ret nm d kc ks rk rn pc lv st w Q :=
  fun p e s m args below meth c H locs cells slots ls hj hr h1 h2 hl => lv_bipush hj.1.1 hj.1.2.1 hd hv (K p e s m args below meth c H locs cells slots ls hj hr h1 h2 hl)
theorem jr_sipush {n : Int} (v : Int32) (hd : decode cc pc = .ok (.sipush n, 3)) (hv : (Int16.ofInt n).toInt32 = v) (K : RR g own cc nL ret nm d kc ks rk rn (pc + 3) lv (.int v :: st) w Q) : RR g own cc nL ret nm d kc ks rk rn pc lv st w Q :=
  fun p e s m args below meth c H locs cells slots ls hj hr h1 h2 hl => lv_sipush hj.1.1 hj.1.2.1 hd hv (K p e s m args below meth c H locs cells slots ls hj hr h1 h2 hl)
theorem jr_lconst {n : Fin 2} (v : Int64) (hd : decode cc pc = .ok (.lconst n, 1)) (hv : Int64.ofNat (n : Nat) = v) (K : RR g own cc nL ret nm d kc ks rk rn (pc + 1) lv (.long v :: st) w Q) : RR g own cc nL ret nm d kc ks rk rn pc lv st w Q :=
  fun p e s m args below meth c H locs cells slots ls hj hr h1 h2 hl => lv_lconst hj.1.1 hj.1.2.1 hd hv (K p e s m args below meth c H locs cells slots ls hj hr h1 h2 hl)
theorem jr_iload_n {k : Fin 4} {x : Int32} (hd : decode cc pc = .ok (.iload_n k, 1)) (hi : lv[(k : Nat)]? = some (some (.int x))) (K : RR g own cc nL ret nm d kc ks rk rn (pc + 1) lv (.int x :: st) w Q) : RR g own cc nL ret nm d kc ks rk rn pc lv st w Q :=
  fun p e s m args below meth c H locs cells slots ls hj hr h1 h2 hl => lv_iload_n hj.1.1 hj.1.2.1 hd rfl (jat hl hi) (K p e s m args below meth c H locs cells slots ls hj hr h1 h2 hl)
theorem jr_iload {k : Nat} {x : Int32} (hd : decode cc pc = .ok (.iload k, 2)) (hi : lv[k]? = some (some (.int x))) (K : RR g own cc nL ret nm d kc ks rk rn (pc + 2) lv (.int x :: st) w Q) : RR g own cc nL ret nm d kc ks rk rn pc lv st w Q :=
  fun p e s m args below meth c H locs cells slots ls hj hr h1 h2 hl => lv_iload hj.1.1 hj.1.2.1 hd (jat hl hi) (K p e s m args below meth c H locs cells slots ls hj hr h1 h2 hl)
theorem jr_lload_n {k : Fin 4} {x : Int64} (hd : decode cc pc = .ok (.lload_n k, 1)) (hi : lv[(k : Nat)]? = some (some (.long x))) (K : RR g own cc nL ret nm d kc ks rk rn (pc + 1) lv (.long x :: st) w Q) : RR g own cc nL ret nm d kc ks rk rn pc lv st w Q :=
  fun p e s m args below meth c H locs cells slots ls hj hr h1 h2 hl => lv_lload_n hj.1.1 hj.1.2.1 hd rfl (jat hl hi) (K p e s m args below meth c H locs cells slots ls hj hr h1 h2 hl)
theorem jr_lload {k : Nat} {x : Int64} (hd : decode cc pc = .ok (.lload k, 2)) (hi : lv[k]? = some (some (.long x))) (K : RR g own cc nL ret nm d kc ks rk rn (pc + 2) lv (.long x :: st) w Q) : RR g own cc nL ret nm d kc ks rk rn pc lv st w Q :=
  fun p e s m args below meth c H locs cells slots ls hj hr h1 h2 hl => lv_lload hj.1.1 hj.1.2.1 hd (jat hl hi) (K p e s m args below meth c H locs cells slots ls hj hr h1 h2 hl)
theorem jr_aload_n {k : Fin 4} {x : Nat} (hd : decode cc pc = .ok (.aload_n k, 1)) (hi : lv[(k : Nat)]? = some (some (.ref x))) (K : RR g own cc nL ret nm d kc ks rk rn (pc + 1) lv (.ref x :: st) w Q) : RR g own cc nL ret nm d kc ks rk rn pc lv st w Q :=
  fun p e s m args below meth c H locs cells slots ls hj hr h1 h2 hl => lv_aload_n hj.1.1 hj.1.2.1 hd rfl (jat hl hi) (K p e s m args below meth c H locs cells slots ls hj hr h1 h2 hl)
theorem jr_aload {k : Nat} {x : Nat} (hd : decode cc pc = .ok (.aload k, 2)) (hi : lv[k]? = some (some (.ref x))) (K : RR g own cc nL ret nm d kc ks rk rn (pc + 2) lv (.ref x :: st) w Q) : RR g own cc nL ret nm d kc ks rk rn pc lv st w Q :=
  fun p e s m args below meth c H locs cells slots ls hj hr h1 h2 hl => lv_aload hj.1.1 hj.1.2.1 hd (jat hl hi) (K p e s m args below meth c H locs cells slots ls hj hr h1 h2 hl)
theorem jr_aloadN_n {k : Fin 4} (hd : decode cc pc = .ok (.aload_n k, 1)) (hi : lv[(k : Nat)]? = some (some .null)) (K : RR g own cc nL ret nm d kc ks rk rn (pc + 1) lv (.null :: st) w Q) : RR g own cc nL ret nm d kc ks rk rn pc lv st w Q :=
  fun p e s m args below meth c H locs cells slots ls hj hr h1 h2 hl => lv_aload_nN hj.1.1 hj.1.2.1 hd rfl (jat hl hi) (K p e s m args below meth c H locs cells slots ls hj hr h1 h2 hl)
theorem jr_istore_ng {k : Fin 4} {x : Int32} (hd : decode cc pc = .ok (.istore_n k, 1)) (hn : (k : Nat) < nL) (hc : ∀ q, q + 1 = (k : Nat) → jc1 (lv.getD q none) = true) (K : RR g own cc nL ret nm d kc ks rk rn (pc + 1) (lv.set (k : Nat) (some (.int x))) st w Q) : RR g own cc nL ret nm d kc ks rk rn pc lv (.int x :: st) w Q :=
  fun p e s m args below meth c H locs cells slots ls hj hr h1 h2 hl => lv_istore_n hj.1.1 hj.1.2.1 hd rfl hl hn rfl (fun ls' hl' => K p e s m args below meth c H locs cells slots ls' hj hr h1 h2 (jstore hc hl'))
theorem jr_istore_g {k : Nat} {x : Int32} (hd : decode cc pc = .ok (.istore k, 2)) (hn : k < nL) (hc : ∀ q, q + 1 = k → jc1 (lv.getD q none) = true) (K : RR g own cc nL ret nm d kc ks rk rn (pc + 2) (lv.set k (some (.int x))) st w Q) : RR g own cc nL ret nm d kc ks rk rn pc lv (.int x :: st) w Q :=
  fun p e s m args below meth c H locs cells slots ls hj hr h1 h2 hl => lv_istore hj.1.1 hj.1.2.1 hd hl hn rfl (fun ls' hl' => K p e s m args below meth c H locs cells slots ls' hj hr h1 h2 (jstore hc hl'))
theorem jr_astore_ng {k : Fin 4} {x : Nat} (hd : decode cc pc = .ok (.astore_n k, 1)) (hn : (k : Nat) < nL) (hc : ∀ q, q + 1 = (k : Nat) → jc1 (lv.getD q none) = true) (K : RR g own cc nL ret nm d kc ks rk rn (pc + 1) (lv.set (k : Nat) (some (.ref x))) st w Q) : RR g own cc nL ret nm d kc ks rk rn pc lv (.ref x :: st) w Q :=
  fun p e s m args below meth c H locs cells slots ls hj hr h1 h2 hl => lv_astore_n hj.1.1 hj.1.2.1 hd rfl hl hn rfl (fun ls' hl' => K p e s m args below meth c H locs cells slots ls' hj hr h1 h2 (jstore hc hl'))
theorem jr_astore_g {k : Nat} {x : Nat} (hd : decode cc pc = .ok (.astore k, 2)) (hn : k < nL) (hc : ∀ q, q + 1 = k → jc1 (lv.getD q none) = true) (K : RR g own cc nL ret nm d kc ks rk rn (pc + 2) (lv.set k (some (.ref x))) st w Q) : RR g own cc nL ret nm d kc ks rk rn pc lv (.ref x :: st) w Q :=
  fun p e s m args below meth c H locs cells slots ls hj hr h1 h2 hl => lv_astore hj.1.1 hj.1.2.1 hd hl hn rfl (fun ls' hl' => K p e s m args below meth c H locs cells slots ls' hj hr h1 h2 (jstore hc hl'))
theorem jr_astoreN_ng {k : Fin 4} (hd : decode cc pc = .ok (.astore_n k, 1)) (hn : (k : Nat) < nL) (hc : ∀ q, q + 1 = (k : Nat) → jc1 (lv.getD q none) = true) (K : RR g own cc nL ret nm d kc ks rk rn (pc + 1) (lv.set (k : Nat) (some .null)) st w Q) : RR g own cc nL ret nm d kc ks rk rn pc lv (.null :: st) w Q :=
  fun p e s m args below meth c H locs cells slots ls hj hr h1 h2 hl => lv_astore_nN hj.1.1 hj.1.2.1 hd rfl hl hn rfl (fun ls' hl' => K p e s m args below meth c H locs cells slots ls' hj hr h1 h2 (jstore hc hl'))
theorem jr_iinc_g {k : Nat} {n : Int} {x : Int32} (v : Int32) (hd : decode cc pc = .ok (.iinc k n, 3)) (hi : lv[k]? = some (some (.int x))) (hv : x + Int32.ofInt n = v) (hn : k < nL) (hc : ∀ q, q + 1 = k → jc1 (lv.getD q none) = true) (K : RR g own cc nL ret nm d kc ks rk rn (pc + 3) (lv.set k (some (.int v))) st w Q) : RR g own cc nL ret nm d kc ks rk rn pc lv st w Q := by
  intro p e s m args below meth c H locs cells slots ls hj hr h1 h2 hl
  obtain ⟨j, hj2⟩ := List.getElem?_of_mem (jasc_mem (n := 0) hi)
  rw [Nat.zero_add] at hj2
  exact lv_iinc hj.1.1 hj.1.2.1 hd hl hj2 hv hn rfl (fun ls' hl' => K p e s m args below meth c H locs cells slots ls' hj hr h1 h2 (jstore hc hl'))
theorem jr_istore_0 {x : Int32} {a0 : Option Value} {l : List (Option Value)} (hd : decode cc pc = .ok (.istore_n 0, 1)) (hn : 0 < nL) (K : RR g own cc nL ret nm d kc ks rk rn (pc + 1) (some (.int x) :: l) st w Q) : RR g own cc nL ret nm d kc ks rk rn pc (a0 :: l) (.int x :: st) w Q :=
  jr_istore_ng (k := (0 : Fin 4)) hd hn (fun q e => absurd e (Nat.succ_ne_zero q)) K
theorem jr_astore_0 {x : Nat} {a0 : Option Value} {l : List (Option Value)} (hd : decode cc pc = .ok (.astore_n 0, 1)) (hn : 0 < nL) (K : RR g own cc nL ret nm d kc ks rk rn (pc + 1) (some (.ref x) :: l) st w Q) : RR g own cc nL ret nm d kc ks rk rn pc (a0 :: l) (.ref x :: st) w Q :=
  jr_astore_ng (k := (0 : Fin 4)) hd hn (fun q e => absurd e (Nat.succ_ne_zero q)) K
theorem jr_astoreN_0 {a0 : Option Value} {l : List (Option Value)} (hd : decode cc pc = .ok (.astore_n 0, 1)) (hn : 0 < nL) (K : RR g own cc nL ret nm d kc ks rk rn (pc + 1) (some .null :: l) st w Q) : RR g own cc nL ret nm d kc ks rk rn pc (a0 :: l) (.null :: st) w Q :=
  jr_astoreN_ng (k := (0 : Fin 4)) hd hn (fun q e => absurd e (Nat.succ_ne_zero q)) K
theorem jr_iinc_0 {n : Int} {x : Int32} {l : List (Option Value)} (v : Int32) (hd : decode cc pc = .ok (.iinc 0 n, 3)) (hv : x + Int32.ofInt n = v) (hn : 0 < nL) (K : RR g own cc nL ret nm d kc ks rk rn (pc + 3) (some (.int v) :: l) st w Q) : RR g own cc nL ret nm d kc ks rk rn pc (some (.int x) :: l) st w Q :=
  jr_iinc_g (k := 0) v hd rfl hv hn (fun q e => absurd e (Nat.succ_ne_zero q)) K
theorem jr_istore_1 {x : Int32} {a0 a1 : Option Value} {l : List (Option Value)} (hd : decode cc pc = .ok (.istore_n 1, 1)) (hn : 1 < nL) (hc : jc1 a0 = true) (K : RR g own cc nL ret nm d kc ks rk rn (pc + 1) (a0 :: some (.int x) :: l) st w Q) : RR g own cc nL ret nm d kc ks rk rn pc (a0 :: a1 :: l) (.int x :: st) w Q :=
  jr_istore_ng (k := (1 : Fin 4)) hd hn (fun q e => by cases e; exact hc) K
theorem jr_astore_1 {x : Nat} {a0 a1 : Option Value} {l : List (Option Value)} (hd : decode cc pc = .ok (.astore_n 1, 1)) (hn : 1 < nL) (hc : jc1 a0 = true) (K : RR g own cc nL ret nm d kc ks rk rn (pc + 1) (a0 :: some (.ref x) :: l) st w Q) : RR g own cc nL ret nm d kc ks rk rn pc (a0 :: a1 :: l) (.ref x :: st) w Q :=
  jr_astore_ng (k := (1 : Fin 4)) hd hn (fun q e => by cases e; exact hc) K
theorem jr_astoreN_1 {a0 a1 : Option Value} {l : List (Option Value)} (hd : decode cc pc = .ok (.astore_n 1, 1)) (hn : 1 < nL) (hc : jc1 a0 = true) (K : RR g own cc nL ret nm d kc ks rk rn (pc + 1) (a0 :: some .null :: l) st w Q) : RR g own cc nL ret nm d kc ks rk rn pc (a0 :: a1 :: l) (.null :: st) w Q :=
  jr_astoreN_ng (k := (1 : Fin 4)) hd hn (fun q e => by cases e; exact hc) K
theorem jr_iinc_1 {n : Int} {x : Int32} {a0 : Option Value} {l : List (Option Value)} (v : Int32) (hd : decode cc pc = .ok (.iinc 1 n, 3)) (hv : x + Int32.ofInt n = v) (hn : 1 < nL) (hc : jc1 a0 = true) (K : RR g own cc nL ret nm d kc ks rk rn (pc + 3) (a0 :: some (.int v) :: l) st w Q) : RR g own cc nL ret nm d kc ks rk rn pc (a0 :: some (.int x) :: l) st w Q :=
  jr_iinc_g (k := 1) v hd rfl hv hn (fun q e => by cases e; exact hc) K
theorem jr_istore_2 {x : Int32} {a0 a1 a2 : Option Value} {l : List (Option Value)} (hd : decode cc pc = .ok (.istore_n 2, 1)) (hn : 2 < nL) (hc : jc1 a1 = true) (K : RR g own cc nL ret nm d kc ks rk rn (pc + 1) (a0 :: a1 :: some (.int x) :: l) st w Q) : RR g own cc nL ret nm d kc ks rk rn pc (a0 :: a1 :: a2 :: l) (.int x :: st) w Q :=
  jr_istore_ng (k := (2 : Fin 4)) hd hn (fun q e => by cases e; exact hc) K
theorem jr_astore_2 {x : Nat} {a0 a1 a2 : Option Value} {l : List (Option Value)} (hd : decode cc pc = .ok (.astore_n 2, 1)) (hn : 2 < nL) (hc : jc1 a1 = true) (K : RR g own cc nL ret nm d kc ks rk rn (pc + 1) (a0 :: a1 :: some (.ref x) :: l) st w Q) : RR g own cc nL ret nm d kc ks rk rn pc (a0 :: a1 :: a2 :: l) (.ref x :: st) w Q :=
  jr_astore_ng (k := (2 : Fin 4)) hd hn (fun q e => by cases e; exact hc) K
theorem jr_astoreN_2 {a0 a1 a2 : Option Value} {l : List (Option Value)} (hd : decode cc pc = .ok (.astore_n 2, 1)) (hn : 2 < nL) (hc : jc1 a1 = true) (K : RR g own cc nL ret nm d kc ks rk rn (pc + 1) (a0 :: a1 :: some .null :: l) st w Q) : RR g own cc nL ret nm d kc ks rk rn pc (a0 :: a1 :: a2 :: l) (.null :: st) w Q :=
  jr_astoreN_ng (k := (2 : Fin 4)) hd hn (fun q e => by cases e; exact hc) K
theorem jr_iinc_2 {n : Int} {x : Int32} {a0 a1 : Option Value} {l : List (Option Value)} (v : Int32) (hd : decode cc pc = .ok (.iinc 2 n, 3)) (hv : x + Int32.ofInt n = v) (hn : 2 < nL) (hc : jc1 a1 = true) (K : RR g own cc nL ret nm d kc ks rk rn (pc + 3) (a0 :: a1 :: some (.int v) :: l) st w Q) : RR g own cc nL ret nm d kc ks rk rn pc (a0 :: a1 :: some (.int x) :: l) st w Q :=
  jr_iinc_g (k := 2) v hd rfl hv hn (fun q e => by cases e; exact hc) K
theorem jr_istore_3 {x : Int32} {a0 a1 a2 a3 : Option Value} {l : List (Option Value)} (hd : decode cc pc = .ok (.istore_n 3, 1)) (hn : 3 < nL) (hc : jc1 a2 = true) (K : RR g own cc nL ret nm d kc ks rk rn (pc + 1) (a0 :: a1 :: a2 :: some (.int x) :: l) st w Q) : RR g own cc nL ret nm d kc ks rk rn pc (a0 :: a1 :: a2 :: a3 :: l) (.int x :: st) w Q :=
  jr_istore_ng (k := (3 : Fin 4)) hd hn (fun q e => by cases e; exact hc) K
theorem jr_astore_3 {x : Nat} {a0 a1 a2 a3 : Option Value} {l : List (Option Value)} (hd : decode cc pc = .ok (.astore_n 3, 1)) (hn : 3 < nL) (hc : jc1 a2 = true) (K : RR g own cc nL ret nm d kc ks rk rn (pc + 1) (a0 :: a1 :: a2 :: some (.ref x) :: l) st w Q) : RR g own cc nL ret nm d kc ks rk rn pc (a0 :: a1 :: a2 :: a3 :: l) (.ref x :: st) w Q :=
  jr_astore_ng (k := (3 : Fin 4)) hd hn (fun q e => by cases e; exact hc) K
theorem jr_astoreN_3 {a0 a1 a2 a3 : Option Value} {l : List (Option Value)} (hd : decode cc pc = .ok (.astore_n 3, 1)) (hn : 3 < nL) (hc : jc1 a2 = true) (K : RR g own cc nL ret nm d kc ks rk rn (pc + 1) (a0 :: a1 :: a2 :: some .null :: l) st w Q) : RR g own cc nL ret nm d kc ks rk rn pc (a0 :: a1 :: a2 :: a3 :: l) (.null :: st) w Q :=
  jr_astoreN_ng (k := (3 : Fin 4)) hd hn (fun q e => by cases e; exact hc) K
theorem jr_iinc_3 {n : Int} {x : Int32} {a0 a1 a2 : Option Value} {l : List (Option Value)} (v : Int32) (hd : decode cc pc = .ok (.iinc 3 n, 3)) (hv : x + Int32.ofInt n = v) (hn : 3 < nL) (hc : jc1 a2 = true) (K : RR g own cc nL ret nm d kc ks rk rn (pc + 3) (a0 :: a1 :: a2 :: some (.int v) :: l) st w Q) : RR g own cc nL ret nm d kc ks rk rn pc (a0 :: a1 :: a2 :: some (.int x) :: l) st w Q :=
  jr_iinc_g (k := 3) v hd rfl hv hn (fun q e => by cases e; exact hc) K
theorem jr_istore_4 {x : Int32} {a0 a1 a2 a3 a4 : Option Value} {l : List (Option Value)} (hd : decode cc pc = .ok (.istore 4, 2)) (hn : 4 < nL) (hc : jc1 a3 = true) (K : RR g own cc nL ret nm d kc ks rk rn (pc + 2) (a0 :: a1 :: a2 :: a3 :: some (.int x) :: l) st w Q) : RR g own cc nL ret nm d kc ks rk rn pc (a0 :: a1 :: a2 :: a3 :: a4 :: l) (.int x :: st) w Q :=
  jr_istore_g (k := 4) hd hn (fun q e => by cases e; exact hc) K
theorem jr_astore_4 {x : Nat} {a0 a1 a2 a3 a4 : Option Value} {l : List (Option Value)} (hd : decode cc pc = .ok (.astore 4, 2)) (hn : 4 < nL) (hc : jc1 a3 = true) (K : RR g own cc nL ret nm d kc ks rk rn (pc + 2) (a0 :: a1 :: a2 :: a3 :: some (.ref x) :: l) st w Q) : RR g own cc nL ret nm d kc ks rk rn pc (a0 :: a1 :: a2 :: a3 :: a4 :: l) (.ref x :: st) w Q :=
  jr_astore_g (k := 4) hd hn (fun q e => by cases e; exact hc) K
theorem jr_iinc_4 {n : Int} {x : Int32} {a0 a1 a2 a3 : Option Value} {l : List (Option Value)} (v : Int32) (hd : decode cc pc = .ok (.iinc 4 n, 3)) (hv : x + Int32.ofInt n = v) (hn : 4 < nL) (hc : jc1 a3 = true) (K : RR g own cc nL ret nm d kc ks rk rn (pc + 3) (a0 :: a1 :: a2 :: a3 :: some (.int v) :: l) st w Q) : RR g own cc nL ret nm d kc ks rk rn pc (a0 :: a1 :: a2 :: a3 :: some (.int x) :: l) st w Q :=
  jr_iinc_g (k := 4) v hd rfl hv hn (fun q e => by cases e; exact hc) K
theorem jr_istore_5 {x : Int32} {a0 a1 a2 a3 a4 a5 : Option Value} {l : List (Option Value)} (hd : decode cc pc = .ok (.istore 5, 2)) (hn : 5 < nL) (hc : jc1 a4 = true) (K : RR g own cc nL ret nm d kc ks rk rn (pc + 2) (a0 :: a1 :: a2 :: a3 :: a4 :: some (.int x) :: l) st w Q) : RR g own cc nL ret nm d kc ks rk rn pc (a0 :: a1 :: a2 :: a3 :: a4 :: a5 :: l) (.int x :: st) w Q :=
  jr_istore_g (k := 5) hd hn (fun q e => by cases e; exact hc) K
theorem jr_astore_5 {x : Nat} {a0 a1 a2 a3 a4 a5 : Option Value} {l : List (Option Value)} (hd : decode cc pc = .ok (.astore 5, 2)) (hn : 5 < nL) (hc : jc1 a4 = true) (K : RR g own cc nL ret nm d kc ks rk rn (pc + 2) (a0 :: a1 :: a2 :: a3 :: a4 :: some (.ref x) :: l) st w Q) : RR g own cc nL ret nm d kc ks rk rn pc (a0 :: a1 :: a2 :: a3 :: a4 :: a5 :: l) (.ref x :: st) w Q :=
  jr_astore_g (k := 5) hd hn (fun q e => by cases e; exact hc) K
theorem jr_iinc_5 {n : Int} {x : Int32} {a0 a1 a2 a3 a4 : Option Value} {l : List (Option Value)} (v : Int32) (hd : decode cc pc = .ok (.iinc 5 n, 3)) (hv : x + Int32.ofInt n = v) (hn : 5 < nL) (hc : jc1 a4 = true) (K : RR g own cc nL ret nm d kc ks rk rn (pc + 3) (a0 :: a1 :: a2 :: a3 :: a4 :: some (.int v) :: l) st w Q) : RR g own cc nL ret nm d kc ks rk rn pc (a0 :: a1 :: a2 :: a3 :: a4 :: some (.int x) :: l) st w Q :=
  jr_iinc_g (k := 5) v hd rfl hv hn (fun q e => by cases e; exact hc) K
theorem jr_istore_6 {x : Int32} {a0 a1 a2 a3 a4 a5 a6 : Option Value} {l : List (Option Value)} (hd : decode cc pc = .ok (.istore 6, 2)) (hn : 6 < nL) (hc : jc1 a5 = true) (K : RR g own cc nL ret nm d kc ks rk rn (pc + 2) (a0 :: a1 :: a2 :: a3 :: a4 :: a5 :: some (.int x) :: l) st w Q) : RR g own cc nL ret nm d kc ks rk rn pc (a0 :: a1 :: a2 :: a3 :: a4 :: a5 :: a6 :: l) (.int x :: st) w Q :=
  jr_istore_g (k := 6) hd hn (fun q e => by cases e; exact hc) K
theorem jr_astore_6 {x : Nat} {a0 a1 a2 a3 a4 a5 a6 : Option Value} {l : List (Option Value)} (hd : decode cc pc = .ok (.astore 6, 2)) (hn : 6 < nL) (hc : jc1 a5 = true) (K : RR g own cc nL ret nm d kc ks rk rn (pc + 2) (a0 :: a1 :: a2 :: a3 :: a4 :: a5 :: some (.ref x) :: l) st w Q) : RR g own cc nL ret nm d kc ks rk rn pc (a0 :: a1 :: a2 :: a3 :: a4 :: a5 :: a6 :: l) (.ref x :: st) w Q :=
  jr_astore_g (k := 6) hd hn (fun q e => by cases e; exact hc) K
theorem jr_iinc_6 {n : Int} {x : Int32} {a0 a1 a2 a3 a4 a5 : Option Value} {l : List (Option Value)} (v : Int32) (hd : decode cc pc = .ok (.iinc 6 n, 3)) (hv : x + Int32.ofInt n = v) (hn : 6 < nL) (hc : jc1 a5 = true) (K : RR g own cc nL ret nm d kc ks rk rn (pc + 3) (a0 :: a1 :: a2 :: a3 :: a4 :: a5 :: some (.int v) :: l) st w Q) : RR g own cc nL ret nm d kc ks rk rn pc (a0 :: a1 :: a2 :: a3 :: a4 :: a5 :: some (.int x) :: l) st w Q :=
  jr_iinc_g (k := 6) v hd rfl hv hn (fun q e => by cases e; exact hc) K
theorem jr_istore_7 {x : Int32} {a0 a1 a2 a3 a4 a5 a6 a7 : Option Value} {l : List (Option Value)} (hd : decode cc pc = .ok (.istore 7, 2)) (hn : 7 < nL) (hc : jc1 a6 = true) (K : RR g own cc nL ret nm d kc ks rk rn (pc + 2) (a0 :: a1 :: a2 :: a3 :: a4 :: a5 :: a6 :: some (.int x) :: l) st w Q) : RR g own cc nL ret nm d kc ks rk rn pc (a0 :: a1 :: a2 :: a3 :: a4 :: a5 :: a6 :: a7 :: l) (.int x :: st) w Q :=
  jr_istore_g (k := 7) hd hn (fun q e => by cases e; exact hc) K
theorem jr_astore_7 {x : Nat} {a0 a1 a2 a3 a4 a5 a6 a7 : Option Value} {l : List (Option Value)} (hd : decode cc pc = .ok (.astore 7, 2)) (hn : 7 < nL) (hc : jc1 a6 = true) (K : RR g own cc nL ret nm d kc ks rk rn (pc + 2) (a0 :: a1 :: a2 :: a3 :: a4 :: a5 :: a6 :: some (.ref x) :: l) st w Q) : RR g own cc nL ret nm d kc ks rk rn pc (a0 :: a1 :: a2 :: a3 :: a4 :: a5 :: a6 :: a7 :: l) (.ref x :: st) w Q :=
  jr_astore_g (k := 7) hd hn (fun q e => by cases e; exact hc) K
theorem jr_iinc_7 {n : Int} {x : Int32} {a0 a1 a2 a3 a4 a5 a6 : Option Value} {l : List (Option Value)} (v : Int32) (hd : decode cc pc = .ok (.iinc 7 n, 3)) (hv : x + Int32.ofInt n = v) (hn : 7 < nL) (hc : jc1 a6 = true) (K : RR g own cc nL ret nm d kc ks rk rn (pc + 3) (a0 :: a1 :: a2 :: a3 :: a4 :: a5 :: a6 :: some (.int v) :: l) st w Q) : RR g own cc nL ret nm d kc ks rk rn pc (a0 :: a1 :: a2 :: a3 :: a4 :: a5 :: a6 :: some (.int x) :: l) st w Q :=
  jr_iinc_g (k := 7) v hd rfl hv hn (fun q e => by cases e; exact hc) K
theorem jr_istore_8 {x : Int32} {a0 a1 a2 a3 a4 a5 a6 a7 a8 : Option Value} {l : List (Option Value)} (hd : decode cc pc = .ok (.istore 8, 2)) (hn : 8 < nL) (hc : jc1 a7 = true) (K : RR g own cc nL ret nm d kc ks rk rn (pc + 2) (a0 :: a1 :: a2 :: a3 :: a4 :: a5 :: a6 :: a7 :: some (.int x) :: l) st w Q) : RR g own cc nL ret nm d kc ks rk rn pc (a0 :: a1 :: a2 :: a3 :: a4 :: a5 :: a6 :: a7 :: a8 :: l) (.int x :: st) w Q :=
  jr_istore_g (k := 8) hd hn (fun q e => by cases e; exact hc) K
theorem jr_astore_8 {x : Nat} {a0 a1 a2 a3 a4 a5 a6 a7 a8 : Option Value} {l : List (Option Value)} (hd : decode cc pc = .ok (.astore 8, 2)) (hn : 8 < nL) (hc : jc1 a7 = true) (K : RR g own cc nL ret nm d kc ks rk rn (pc + 2) (a0 :: a1 :: a2 :: a3 :: a4 :: a5 :: a6 :: a7 :: some (.ref x) :: l) st w Q) : RR g own cc nL ret nm d kc ks rk rn pc (a0 :: a1 :: a2 :: a3 :: a4 :: a5 :: a6 :: a7 :: a8 :: l) (.ref x :: st) w Q :=
  jr_astore_g (k := 8) hd hn (fun q e => by cases e; exact hc) K
theorem jr_iinc_8 {n : Int} {x : Int32} {a0 a1 a2 a3 a4 a5 a6 a7 : Option Value} {l : List (Option Value)} (v : Int32) (hd : decode cc pc = .ok (.iinc 8 n, 3)) (hv : x + Int32.ofInt n = v) (hn : 8 < nL) (hc : jc1 a7 = true) (K : RR g own cc nL ret nm d kc ks rk rn (pc + 3) (a0 :: a1 :: a2 :: a3 :: a4 :: a5 :: a6 :: a7 :: some (.int v) :: l) st w Q) : RR g own cc nL ret nm d kc ks rk rn pc (a0 :: a1 :: a2 :: a3 :: a4 :: a5 :: a6 :: a7 :: some (.int x) :: l) st w Q :=
  jr_iinc_g (k := 8) v hd rfl hv hn (fun q e => by cases e; exact hc) K
theorem jr_istore_9 {x : Int32} {a0 a1 a2 a3 a4 a5 a6 a7 a8 a9 : Option Value} {l : List (Option Value)} (hd : decode cc pc = .ok (.istore 9, 2)) (hn : 9 < nL) (hc : jc1 a8 = true) (K : RR g own cc nL ret nm d kc ks rk rn (pc + 2) (a0 :: a1 :: a2 :: a3 :: a4 :: a5 :: a6 :: a7 :: a8 :: some (.int x) :: l) st w Q) : RR g own cc nL ret nm d kc ks rk rn pc (a0 :: a1 :: a2 :: a3 :: a4 :: a5 :: a6 :: a7 :: a8 :: a9 :: l) (.int x :: st) w Q :=
  jr_istore_g (k := 9) hd hn (fun q e => by cases e; exact hc) K
theorem jr_astore_9 {x : Nat} {a0 a1 a2 a3 a4 a5 a6 a7 a8 a9 : Option Value} {l : List (Option Value)} (hd : decode cc pc = .ok (.astore 9, 2)) (hn : 9 < nL) (hc : jc1 a8 = true) (K : RR g own cc nL ret nm d kc ks rk rn (pc + 2) (a0 :: a1 :: a2 :: a3 :: a4 :: a5 :: a6 :: a7 :: a8 :: some (.ref x) :: l) st w Q) : RR g own cc nL ret nm d kc ks rk rn pc (a0 :: a1 :: a2 :: a3 :: a4 :: a5 :: a6 :: a7 :: a8 :: a9 :: l) (.ref x :: st) w Q :=
  jr_astore_g (k := 9) hd hn (fun q e => by cases e; exact hc) K
theorem jr_iinc_9 {n : Int} {x : Int32} {a0 a1 a2 a3 a4 a5 a6 a7 a8 : Option Value} {l : List (Option Value)} (v : Int32) (hd : decode cc pc = .ok (.iinc 9 n, 3)) (hv : x + Int32.ofInt n = v) (hn : 9 < nL) (hc : jc1 a8 = true) (K : RR g own cc nL ret nm d kc ks rk rn (pc + 3) (a0 :: a1 :: a2 :: a3 :: a4 :: a5 :: a6 :: a7 :: a8 :: some (.int v) :: l) st w Q) : RR g own cc nL ret nm d kc ks rk rn pc (a0 :: a1 :: a2 :: a3 :: a4 :: a5 :: a6 :: a7 :: a8 :: some (.int x) :: l) st w Q :=
  jr_iinc_g (k := 9) v hd rfl hv hn (fun q e => by cases e; exact hc) K
theorem jr_if_eq {x : Int32} {off : Int} (tgt : Nat) (hd : decode cc pc = .ok (.ifCond .eq off, 3)) (ht : (pc : Int) + off = (tgt : Int)) (KT : x = 0 → RR g own cc nL ret nm d kc ks rk rn tgt lv st w Q) (KF : ¬ x = 0 → RR g own cc nL ret nm d kc ks rk rn (pc + 3) lv st w Q) : RR g own cc nL ret nm d kc ks rk rn pc lv (.int x :: st) w Q :=
  fun p e s m args below meth c H locs cells slots ls hj hr h1 h2 hl => lv_if_eq hj.1.1 hj.1.2.1 hd ht (fun q => KT q p e s m args below meth c H locs cells slots ls hj hr h1 h2 hl) (fun q => KF q p e s m args below meth c H locs cells slots ls hj hr h1 h2 hl)
theorem jr_icmp_eq {x y : Int32} {off : Int} (tgt : Nat) (hd : decode cc pc = .ok (.if_icmp .eq off, 3)) (ht : (pc : Int) + off = (tgt : Int)) (KT : x = y → RR g own cc nL ret nm d kc ks rk rn tgt lv st w Q) (KF : ¬ x = y → RR g own cc nL ret nm d kc ks rk rn (pc + 3) lv st w Q) : RR g own cc nL ret nm d kc ks rk rn pc lv (.int y :: .int x :: st) w Q :=
  fun p e s m args below meth c H locs cells slots ls hj hr h1 h2 hl => lv_icmp_eq hj.1.1 hj.1.2.1 hd ht (fun q => KT q p e s m args below meth c H locs cells slots ls hj hr h1 h2 hl) (fun q => KF q p e s m args below meth c H locs cells slots ls hj hr h1 h2 hl)
theorem jr_if_ne {x : Int32} {off : Int} (tgt : Nat) (hd : decode cc pc = .ok (.ifCond .ne off, 3)) (ht : (pc : Int) + off = (tgt : Int)) (KT : ¬ x = 0 → RR g own cc nL ret nm d kc ks rk rn tgt lv st w Q) (KF : x = 0 → RR g own cc nL ret nm d kc ks rk rn (pc + 3) lv st w Q) : RR g own cc nL ret nm d kc ks rk rn pc lv (.int x :: st) w Q :=
  fun p e s m args below meth c H locs cells slots ls hj hr h1 h2 hl => lv_if_ne hj.1.1 hj.1.2.1 hd ht (fun q => KT q p e s m args below meth c H locs cells slots ls hj hr h1 h2 hl) (fun q => KF q p e s m args below meth c H locs cells slots ls hj hr h1 h2 hl)
theorem jr_icmp_ne {x y : Int32} {off : Int} (tgt : Nat) (hd : decode cc pc = .ok (.if_icmp .ne off, 3)) (ht : (pc : Int) + off = (tgt : Int)) (KT : ¬ x = y → RR g own cc nL ret nm d kc ks rk rn tgt lv st w Q) (KF : x = y → RR g own cc nL ret nm d kc ks rk rn (pc + 3) lv st w Q) : RR g own cc nL ret nm d kc ks rk rn pc lv (.int y :: .int x :: st) w Q :=
  fun p e s m args below meth c H locs cells slots ls hj hr h1 h2 hl => lv_icmp_ne hj.1.1 hj.1.2.1 hd ht (fun q => KT q p e s m args below meth c H locs cells slots ls hj hr h1 h2 hl) (fun q => KF q p e s m args below meth c H locs cells slots ls hj hr h1 h2 hl)
theorem jr_if_lt {x : Int32} {off : Int} (tgt : Nat) (hd : decode cc pc = .ok (.ifCond .lt off, 3)) (ht : (pc : Int) + off = (tgt : Int)) (KT : x < 0 → RR g own cc nL ret nm d kc ks rk rn tgt lv st w Q) (KF : ¬ x < 0 → RR g own cc nL ret nm d kc ks rk rn (pc + 3) lv st w Q) : RR g own cc nL ret nm d kc ks rk rn pc lv (.int x :: st) w Q :=
  fun p e s m args below meth c H locs cells slots ls hj hr h1 h2 hl => lv_if_lt hj.1.1 hj.1.2.1 hd ht (fun q => KT q p e s m args below meth c H locs cells slots ls hj hr h1 h2 hl) (fun q => KF q p e s m args below meth c H locs cells slots ls hj hr h1 h2 hl)
theorem jr_icmp_lt {x y : Int32} {off : Int} (tgt : Nat) (hd : decode cc pc = .ok (.if_icmp .lt off, 3)) (ht : (pc : Int) + off = (tgt : Int)) (KT : x < y → RR g own cc nL ret nm d kc ks rk rn tgt lv st w Q) (KF : ¬ x < y → RR g own cc nL ret nm d kc ks rk rn (pc + 3) lv st w Q) : RR g own cc nL ret nm d kc ks rk rn pc lv (.int y :: .int x :: st) w Q :=
  fun p e s m args below meth c H locs cells slots ls hj hr h1 h2 hl => lv_icmp_lt hj.1.1 hj.1.2.1 hd ht (fun q => KT q p e s m args below meth c H locs cells slots ls hj hr h1 h2 hl) (fun q => KF q p e s m args below meth c H locs cells slots ls hj hr h1 h2 hl)
theorem jr_if_ge {x : Int32} {off : Int} (tgt : Nat) (hd : decode cc pc = .ok (.ifCond .ge off, 3)) (ht : (pc : Int) + off = (tgt : Int)) (KT : 0 ≤ x → RR g own cc nL ret nm d kc ks rk rn tgt lv st w Q) (KF : ¬ 0 ≤ x → RR g own cc nL ret nm d kc ks rk rn (pc + 3) lv st w Q) : RR g own cc nL ret nm d kc ks rk rn pc lv (.int x :: st) w Q :=
  fun p e s m args below meth c H locs cells slots ls hj hr h1 h2 hl => lv_if_ge hj.1.1 hj.1.2.1 hd ht (fun q => KT q p e s m args below meth c H locs cells slots ls hj hr h1 h2 hl) (fun q => KF q p e s m args below meth c H locs cells slots ls hj hr h1 h2 hl)
theorem jr_icmp_ge {x y : Int32} {off : Int} (tgt : Nat) (hd : decode cc pc = .ok (.if_icmp .ge off, 3)) (ht : (pc : Int) + off = (tgt : Int)) (KT : y ≤ x → RR g own cc nL ret nm d kc ks rk rn tgt lv st w Q) (KF : ¬ y ≤ x → RR g own cc nL ret nm d kc ks rk rn (pc + 3) lv st w Q) : RR g own cc nL ret nm d kc ks rk rn pc lv (.int y :: .int x :: st) w Q :=
  fun p e s m args below meth c H locs cells slots ls hj hr h1 h2 hl => lv_icmp_ge hj.1.1 hj.1.2.1 hd ht (fun q => KT q p e s m args below meth c H locs cells slots ls hj hr h1 h2 hl) (fun q => KF q p e s m args below meth c H locs cells slots ls hj hr h1 h2 hl)
theorem jr_if_gt {x : Int32} {off : Int} (tgt : Nat) (hd : decode cc pc = .ok (.ifCond .gt off, 3)) (ht : (pc : Int) + off = (tgt : Int)) (KT : 0 < x → RR g own cc nL ret nm d kc ks rk rn tgt lv st w Q) (KF : ¬ 0 < x → RR g own cc nL ret nm d kc ks rk rn (pc + 3) lv st w Q) : RR g own cc nL ret nm d kc ks rk rn pc lv (.int x :: st) w Q :=
  fun p e s m args below meth c H locs cells slots ls hj hr h1 h2 hl => lv_if_gt hj.1.1 hj.1.2.1 hd ht (fun q => KT q p e s m args below meth c H locs cells slots ls hj hr h1 h2 hl) (fun q => KF q p e s m args below meth c H locs cells slots ls hj hr h1 h2 hl)
theorem jr_icmp_gt {x y : Int32} {off : Int} (tgt : Nat) (hd : decode cc pc = .ok (.if_icmp .gt off, 3)) (ht : (pc : Int) + off = (tgt : Int)) (KT : y < x → RR g own cc nL ret nm d kc ks rk rn tgt lv st w Q) (KF : ¬ y < x → RR g own cc nL ret nm d kc ks rk rn (pc + 3) lv st w Q) : RR g own cc nL ret nm d kc ks rk rn pc lv (.int y :: .int x :: st) w Q :=
  fun p e s m args below meth c H locs cells slots ls hj hr h1 h2 hl => lv_icmp_gt hj.1.1 hj.1.2.1 hd ht (fun q => KT q p e s m args below meth c H locs cells slots ls hj hr h1 h2 hl) (fun q => KF q p e s m args below meth c H locs cells slots ls hj hr h1 h2 hl)
theorem jr_if_le {x : Int32} {off : Int} (tgt : Nat) (hd : decode cc pc = .ok (.ifCond .le off, 3)) (ht : (pc : Int) + off = (tgt : Int)) (KT : x ≤ 0 → RR g own cc nL ret nm d kc ks rk rn tgt lv st w Q) (KF : ¬ x ≤ 0 → RR g own cc nL ret nm d kc ks rk rn (pc + 3) lv st w Q) : RR g own cc nL ret nm d kc ks rk rn pc lv (.int x :: st) w Q :=
  fun p e s m args below meth c H locs cells slots ls hj hr h1 h2 hl => lv_if_le hj.1.1 hj.1.2.1 hd ht (fun q => KT q p e s m args below meth c H locs cells slots ls hj hr h1 h2 hl) (fun q => KF q p e s m args below meth c H locs cells slots ls hj hr h1 h2 hl)
theorem jr_icmp_le {x y : Int32} {off : Int} (tgt : Nat) (hd : decode cc pc = .ok (.if_icmp .le off, 3)) (ht : (pc : Int) + off = (tgt : Int)) (KT : x ≤ y → RR g own cc nL ret nm d kc ks rk rn tgt lv st w Q) (KF : ¬ x ≤ y → RR g own cc nL ret nm d kc ks rk rn (pc + 3) lv st w Q) : RR g own cc nL ret nm d kc ks rk rn pc lv (.int y :: .int x :: st) w Q :=
  fun p e s m args below meth c H locs cells slots ls hj hr h1 h2 hl => lv_icmp_le hj.1.1 hj.1.2.1 hd ht (fun q => KT q p e s m args below meth c H locs cells slots ls hj hr h1 h2 hl) (fun q => KF q p e s m args below meth c H locs cells slots ls hj hr h1 h2 hl)
theorem jr_goto {off : Int} (tgt : Nat) (hd : decode cc pc = .ok (.goto off, 3)) (ht : (pc : Int) + off = (tgt : Int)) (K : RR g own cc nL ret nm d kc ks rk rn tgt lv st w Q) : RR g own cc nL ret nm d kc ks rk rn pc lv st w Q :=
  fun p e s m args below meth c H locs cells slots ls hj hr h1 h2 hl => lv_goto hj.1.1 hj.1.2.1 hd ht (K p e s m args below meth c H locs cells slots ls hj hr h1 h2 hl)
theorem jr_ifnull {x : Nat} {off : Int} (hd : decode cc pc = .ok (.ifnull off, 3)) (K : RR g own cc nL ret nm d kc ks rk rn (pc + 3) lv st w Q) : RR g own cc nL ret nm d kc ks rk rn pc lv (.ref x :: st) w Q :=
  fun p e s m args below meth c H locs cells slots ls hj hr h1 h2 hl => lv_ifnull hj.1.1 hj.1.2.1 hd (K p e s m args below meth c H locs cells slots ls hj hr h1 h2 hl)
theorem jr_ifnullN {off : Int} (tgt : Nat) (hd : decode cc pc = .ok (.ifnull off, 3)) (ht : (pc : Int) + off = (tgt : Int)) (K : RR g own cc nL ret nm d kc ks rk rn tgt lv st w Q) : RR g own cc nL ret nm d kc ks rk rn pc lv (.null :: st) w Q :=
  fun p e s m args below meth c H locs cells slots ls hj hr h1 h2 hl => lv_ifnullN hj.1.1 hj.1.2.1 hd ht (K p e s m args below meth c H locs cells slots ls hj hr h1 h2 hl)
theorem jr_ifnonnull {x : Nat} {off : Int} (tgt : Nat) (hd : decode cc pc = .ok (.ifnonnull off, 3)) (ht : (pc : Int) + off = (tgt : Int)) (K : RR g own cc nL ret nm d kc ks rk rn tgt lv st w Q) : RR g own cc nL ret nm d kc ks rk rn pc lv (.ref x :: st) w Q :=
  fun p e s m args below meth c H locs cells slots ls hj hr h1 h2 hl => lv_ifnonnull hj.1.1 hj.1.2.1 hd ht (K p e s m args below meth c H locs cells slots ls hj hr h1 h2 hl)
theorem jr_ifnonnullN {off : Int} (hd : decode cc pc = .ok (.ifnonnull off, 3)) (K : RR g own cc nL ret nm d kc ks rk rn (pc + 3) lv st w Q) : RR g own cc nL ret nm d kc ks rk rn pc lv (.null :: st) w Q :=
  fun p e s m args below meth c H locs cells slots ls hj hr h1 h2 hl => lv_ifnonnullN hj.1.1 hj.1.2.1 hd (K p e s m args below meth c H locs cells slots ls hj hr h1 h2 hl)
theorem jr_tableIn {dflt lo hi : Int} {offs : Array Int} {len : Nat} {x : Int32} {off : Int} (tgt : Nat) (hd : decode cc pc = .ok (.tableswitch dflt lo hi offs, len)) (q1 : ¬ x.toInt < lo) (q2 : ¬ hi < x.toInt) (ho : offs[(x.toInt - lo).toNat]? = some off) (ht : (pc : Int) + off = (tgt : Int)) (K : RR g own cc nL ret nm d kc ks rk rn tgt lv st w Q) : RR g own cc nL ret nm d kc ks rk rn pc lv (.int x :: st) w Q :=
  fun p e s m args below meth c H locs cells slots ls hj hr h1 h2 hl => lv_tableIn hj.1.1 hj.1.2.1 hd q1 q2 ho ht (K p e s m args below meth c H locs cells slots ls hj hr h1 h2 hl)
theorem jr_tableOut {dflt lo hi : Int} {offs : Array Int} {len : Nat} {x : Int32} (tgt : Nat) (hd : decode cc pc = .ok (.tableswitch dflt lo hi offs, len)) (q : x.toInt < lo ∨ hi < x.toInt) (ht : (pc : Int) + dflt = (tgt : Int)) (K : RR g own cc nL ret nm d kc ks rk rn tgt lv st w Q) : RR g own cc nL ret nm d kc ks rk rn pc lv (.int x :: st) w Q :=
  fun p e s m args below meth c H locs cells slots ls hj hr h1 h2 hl => lv_tableOut hj.1.1 hj.1.2.1 hd q ht (K p e s m args below meth c H locs cells slots ls hj hr h1 h2 hl)
theorem jr_lookup {dflt : Int} {ps : Array (Int × Int)} {len : Nat} {x : Int32} {off : Int} (tgt : Nat) (hd : decode cc pc = .ok (.lookupswitch dflt ps, len)) (hp : (ps.toList.zip (ps.toList.drop 1)).all (fun (a, next) => a.1 < next.1) = true) (ho : Op.lookupswitch.offset ps.toList dflt x.toInt = off) (ht : (pc : Int) + off = (tgt : Int)) (K : RR g own cc nL ret nm d kc ks rk rn tgt lv st w Q) : RR g own cc nL ret nm d kc ks rk rn pc lv (.int x :: st) w Q :=
  fun p e s m args below meth c H locs cells slots ls hj hr h1 h2 hl => lv_lookup hj.1.1 hj.1.2.1 hd hp ho ht (K p e s m args below meth c H locs cells slots ls hj hr h1 h2 hl)
theorem jr_ldc {idx : Nat} (v : Int32) (hw : Cond.constant own idx v ∈ kw) (hd : decode cc pc = .ok (.ldc idx, 2)) (K : RR g own cc nL ret nm d kc ks rk rn (pc + 2) lv (.int v :: st) w Q) : RR g own cc nL ret nm d kc ks rk rn pc lv st w Q :=
  fun p e s m args below meth c H locs cells slots ls hj hr h1 h2 hl => lv_ldc hj.1.1 hj.1.2.1 hj.1.2.2.2.1 (hj.1.2.2.2.2 _ hw) hd (K p e s m args below meth c H locs cells slots ls hj hr h1 h2 hl)
theorem jr_ldcw {idx : Nat} (v : Int32) (hw : Cond.constant own idx v ∈ kw) (hd : decode cc pc = .ok (.ldc_w idx, 3)) (K : RR g own cc nL ret nm d kc ks rk rn (pc + 3) lv (.int v :: st) w Q) : RR g own cc nL ret nm d kc ks rk rn pc lv st w Q :=
  fun p e s m args below meth c H locs cells slots ls hj hr h1 h2 hl => lv_ldcw hj.1.1 hj.1.2.1 hj.1.2.2.2.1 (hj.1.2.2.2.2 _ hw) hd (K p e s m args below meth c H locs cells slots ls hj hr h1 h2 hl)
theorem jr_ldc2 {idx : Nat} (v : Int64) (hw : Cond.constantLong own idx v ∈ kw) (hd : decode cc pc = .ok (.ldc2_w idx, 3)) (K : RR g own cc nL ret nm d kc ks rk rn (pc + 3) lv (.long v :: st) w Q) : RR g own cc nL ret nm d kc ks rk rn pc lv st w Q :=
  fun p e s m args below meth c H locs cells slots ls hj hr h1 h2 hl => lv_ldc2 hj.1.1 hj.1.2.1 hj.1.2.2.2.1 (hj.1.2.2.2.2 _ hw) hd (K p e s m args below meth c H locs cells slots ls hj hr h1 h2 hl)
-- ends
theorem jr_iret {x : Int32} (hret : ret = some .int) (hd : decode cc pc = .ok (.ireturn, 1)) (K : Q (some (.int x)) w) : RR g own cc nL ret nm d kc ks rk rn pc lv [.int x] w Q := by
  intro p e s m args below meth c H locs cells slots ls hj hr h1 h2 hl
  refine W.widen (k := kc) (n := ks) (by omega) (by omega) ?_
  exact W.iret hj.1.1 hj.1.2.1 (hj.2.1.trans hret) (fun t ht hW => ⟨⟨_, w, rfl, K, by rw [ht]; exact hr.1, by rw [ht]; exact hr.2.1⟩, hr.2.2.F ht⟩) (fun q hq => hr.2.2.2.2 q hq) hd hj.2.2.1
theorem jr_zret {x : Int32} {ty : FieldType} (hret : ret = some ty) (hn : narrow ty (.int x) = .int x) (hd : decode cc pc = .ok (.ireturn, 1)) (K : Q (some (.int x)) w) : RR g own cc nL ret nm d kc ks rk rn pc lv [.int x] w Q := by
  intro p e s m args below meth c H locs cells slots ls hj hr h1 h2 hl
  refine W.widen (k := kc) (n := ks) (by omega) (by omega) ?_
  exact W.zret hj.1.1 hj.1.2.1 (hj.2.1.trans hret) hn (fun t ht hW => ⟨⟨_, w, rfl, K, by rw [ht]; exact hr.1, by rw [ht]; exact hr.2.1⟩, hr.2.2.F ht⟩) (fun q hq => hr.2.2.2.2 q hq) hd hj.2.2.1
theorem jr_vret (hret : ret = none) (hd : decode cc pc = .ok (.return_, 1)) (K : Q none w) : RR g own cc nL ret nm d kc ks rk rn pc lv [] w Q := by
  intro p e s m args below meth c H locs cells slots ls hj hr h1 h2 hl
  refine W.widen (k := kc) (n := ks) (by omega) (by omega) ?_
  exact W.vret hj.1.1 hj.1.2.1 (hj.2.1.trans hret) (fun t ht hW => ⟨⟨_, w, rfl, K, by rw [ht]; exact hr.1, by rw [ht]; exact hr.2.1⟩, hr.2.2.F ht⟩) (fun q hq => hr.2.2.2.2 q hq) hd hj.2.2.1
theorem jr_aret {v : Value} {rt : FieldType} (hret : ret = some rt) (hrt : (∃ n, rt = .object n) ∨ ∃ t, rt = .array t) (hv : v = .null ∨ ∃ a, v = .ref a) (hd : decode cc pc = .ok (.areturn, 1)) (K : Q (some v) w) : RR g own cc nL ret nm d kc ks rk rn pc lv [v] w Q := by
  intro p e s m args below meth c H locs cells slots ls hj hr h1 h2 hl
  refine W.widen (k := kc) (n := ks) (by omega) (by omega) ?_
  exact W.aret hj.1.1 hj.1.2.1 (hj.2.1.trans hret) hrt hv (fun t ht hW => ⟨⟨_, w, rfl, K, by rw [ht]; exact hr.1, by rw [ht]; exact hr.2.1⟩, hr.2.2.F ht⟩) (fun q hq => hr.2.2.2.2 q hq) hd hj.2.2.1
-- fields
theorem jr_get {ci k idx a : Nat} {C ref : String} {T : u_T} {N : Nat} {v : Value} (hlk : Cond.fieldLink own idx ref (T k).2.1 (T k).2.2.1 ∈ kw) (hu : ∀ w ∈ u_ws C T N, w ∈ kw) (hc : kcl[ci]? = some (C, T, N)) (hci : ci < 10) (hk : k < N) (href : (T k).1 = ref)
    (hs : jK w a ci 0) (hv : (jfs ci (wI w a) (fun k => jrf g (wF w a k)))[k]? = some v) (hd : decode cc pc = .ok (.getfield idx, 3)) (K : RR g own cc nL ret nm d kc ks rk rn (pc + 3) lv (v :: st) w Q) : RR g own cc nL ret nm d kc ks rk rn pc lv (.ref (gb g + a) :: st) w Q := by
  intro p e s m args below meth c H locs cells slots ls hj hr h1 h2 hl
  have he : (wl g w)[a]? = some (gb g + a, .inr (ci, jfs ci (wI w a) (fun k => jrf g (wF w a k)))) := by rw [wl_at g w hs.1, cE_obj hs hci]
  subst href
  exact va_get hj.1.1 hj.1.2.1 hj.1.2.2.2.2 hu hj.1.2.2.2.1 hj.2.2.2.2.1 hr.2.1 a he hc k hk (hj.1.2.2.2.2 _ hlk) (fun _ h9 => h9) hv hd (K p e s m args below meth c H locs cells slots ls hj hr h1 h2 hl)
theorem jr_put {ci k idx a : Nat} {C ref : String} {T : u_T} {N : Nat} {v : Value} {ty : FieldType} {ty0 : Nat → FieldType} {w' : Wd} (hlk : Cond.fieldLink own idx ref (T k).2.1 (T k).2.2.1 ∈ kw) (hu : ∀ w ∈ u_ws C T N, w ∈ kw) (hc : kcl[ci]? = some (C, T, N)) (hci : ci < 10) (hk : k < N) (href : (T k).1 = ref)
    (hty : ∀ k, k < N → parseFieldDescriptor (T k).2.2.1 = some (ty0 k)) (hnm : ∀ a, a < N → ∀ b, b < N → a ≠ b → (T a).2.1 ≠ (T b).2.1) (hdt : parseFieldDescriptor (T k).2.2.1 = some ty) (hn : narrow ty v = v) (hfit : fits ty v = true) (hfin : (T k).2.2.2 = false ∨ ((T k).2.2.2 = true ∧ nm = "<init>" ∧ (T k).1 = own))
    (hs : jK w a ci 0) (hlen : ∀ I F, k < (jfs ci I F).length) (hw' : wn w' = wn w) (hset : cE g w' a = .inr (ci, (jfs ci (wI w a) (fun k => jrf g (wF w a k))).set k v)) (ho : ∀ i, i ≠ a → cE g w' i = cE g w i) (hd : decode cc pc = .ok (.putfield idx, 3)) (K : RR g own cc nL ret nm d kc ks rk rn (pc + 3) lv st w' Q) : RR g own cc nL ret nm d kc ks rk rn pc lv (v :: .ref (gb g + a) :: st) w Q := by
  intro p e s m args below meth c H locs cells slots ls hj hr h1 h2 hl
  have he : (wl g w)[a]? = some (gb g + a, .inr (ci, jfs ci (wI w a) (fun k => jrf g (wF w a k)))) := by rw [wl_at g w hs.1, cE_obj hs hci]
  have hP := hr.2.1
  have hK := hj.2.2.2.2.1
  have hts := hj.1.2.2.2.2
  have hown := hj.1.2.2.2.1
  have hD := wl_D g w
  subst href
  have hap := va_apart (own := own) hts hu ty0 hty hnm hK hc
  obtain ⟨r, g1, cell, q1, q2, q3, q4⟩ := hP a _ he
  have hr2 : r = (C, T, N) := Option.some.inj (g1.symm.trans hc)
  subst hr2
  obtain ⟨hS, hfc, kC, hkC, hkind⟩ := hK.1 ci _ hc
  obtain ⟨cf, kf, fi, f, hi, hsl⟩ := hS k hk
  have hlay := hts _ (hu _ (u_in_lay hk))
  have hst := (u_facts hfc hkC (u_lays hts hu hk) hi).1
  have fin : ∀ H' : Heap, H'[gb g + a]? = some (cell.setSlot (gD g |>.2 ci k) v) → H'.size = H.size → (∀ q : Nat, q ≠ gb g + a → H'[q]? = H[q]?) → W p (gl g) e (jrm d kc ks) s m args below meth c H' (locs ++ [⟨gb g + a, (gD g).2 ci k⟩]) cells slots (MQ below (QQ g Q) args s kc ks (gA g)) (F0 m (pc + 3) ls st) := by
    intro H' e1 e2 e3
    have hP' := hP.set hD he (e := .inr (ci, (jfs ci (wI w a) (fun k => jrf g (wF w a k))).set k v)) ⟨_, hc, t_OB.to (V := updV (vp_V (jfs ci (wI w a) (fun k => jrf g (wF w a k)))) k v) ⟨_, e1, q2, q3, t_set q4 hap hk v⟩ (fun j _ => vp_updV_set (hlen _ _) v j)⟩ e3
    rw [wl_set hs.1 hw' hset ho] at hP'
    exact K p e s m args below meth c H' _ cells slots ls hj ⟨by rw [e2, hw']; exact hr.1, hP', hr.2.2.put e2 e3 (hD.2 a _ he)⟩ h1 h2 hl
  unfold u_lay at hlay
  rcases hfin with hf | ⟨hf, hini, hdecl⟩
  · rw [if_neg (by rw [hf]; decide)] at hlay
    have h6 := u_store hfc hkC hkind hlay hi hdt hn hfit
    refine W.putK hj.1.1 hj.1.2.1 (f := f) ⟨hown, hts _ hlk, ⟨_, _, _, hi⟩, hst⟩ (by rw [q2]; exact h6) q1 q3 (by rw [hsl]; exact k2_hasslot (q4 k hk)) rfl rfl hd fun H' e1 e2 e3 => ?_
    rw [hsl] at e1 ⊢
    exact fin H' e1 e2 e3
  · rw [if_pos hf] at hlay
    have hcf : m.cls = cf := by
      obtain ⟨_, _, c', _, _, _, -, -, hf', -, -, -, hown2, -⟩ := Cond.laysFinal_spec hlay
      have e1 : c' = cf := by have := hi.symm.trans hf'; simp at this; exact this.1.symm
      rw [hdecl] at hown2
      rw [← e1]; exact Option.some.inj (hown.symm.trans hown2)
    have h6 := u_fits hfc hkC hkind (Or.inr hlay) hi hdt hn hfit
    refine W.putFinK hj.1.1 hj.1.2.1 hown (hts _ hlk) hi hst hcf (hj.2.2.2.1.trans hini) (by rw [q2]; exact h6) q1 q3 (by rw [hsl]; exact k2_hasslot (q4 k hk)) rfl rfl hd fun H' e1 e2 e3 => ?_
    rw [hsl] at e1 ⊢
    exact fin H' e1 e2 e3
-- rows
theorem jr_iald {a n : Nat} {i : Int32} (j : Nat) (hs : jK w a 11 n) (hij : i = nI j) (hjn : j < n ∧ n < 2 ^ 31) (hd : decode cc pc = .ok (.iaload, 1)) (K : RR g own cc nL ret nm d kc ks rk rn (pc + 1) lv (.int (wI w a j) :: st) w Q) : RR g own cc nL ret nm d kc ks rk rn pc lv (.int i :: .ref (gb g + a) :: st) w Q := by
  intro p e s m args below meth c H locs cells slots ls hj hr h1 h2 hl
  subst hij
  have ha : (wl g w)[a]? = some (gb g + a, .inl (gc g 1, n, .inl (wI w a))) := by rw [wl_at g w hs.1, cE_int hs (by decide) (by decide)]
  refine va_iald hj.1.1 hj.1.2.1 hj.2.2.2.2.1 hr.2.1 a 1 ha rfl (vp_in_nI hjn.1 hjn.2) hd ?_
  rw [nI_clamp (Nat.lt_trans hjn.1 hjn.2)]
  exact K p e s m args below meth c H locs cells slots ls hj hr h1 h2 hl
theorem jr_bald {a n : Nat} {i : Int32} (j : Nat) (hs : jK w a 10 n) (hij : i = nI j) (hjn : j < n ∧ n < 2 ^ 31) (hd : decode cc pc = .ok (.baload, 1)) (K : RR g own cc nL ret nm d kc ks rk rn (pc + 1) lv (.int (wI w a j) :: st) w Q) : RR g own cc nL ret nm d kc ks rk rn pc lv (.int i :: .ref (gb g + a) :: st) w Q := by
  intro p e s m args below meth c H locs cells slots ls hj hr h1 h2 hl
  subst hij
  have ha : (wl g w)[a]? = some (gb g + a, .inl (gc g 0, n, .inl (wI w a))) := by rw [wl_at g w hs.1, cE_int hs (by decide) (by decide)]
  refine va_bald hj.1.1 hj.1.2.1 hj.2.2.2.2.1 hr.2.1 a 0 ha rfl (vp_in_nI hjn.1 hjn.2) hd ?_
  rw [nI_clamp (Nat.lt_trans hjn.1 hjn.2)]
  exact K p e s m args below meth c H locs cells slots ls hj hr h1 h2 hl
theorem jr_aald {a kd n : Nat} {i : Int32} {v : Value} (j : Nat) (hs : jK w a kd n) (hkd : kd = 12 ∨ kd = 13 ∨ kd = 14 ∨ kd = 15) (hij : i = nI j) (hjn : j < n ∧ n < 2 ^ 31) (hv : jrf g (wF w a j) = v) (hd : decode cc pc = .ok (.aaload, 1)) (K : RR g own cc nL ret nm d kc ks rk rn (pc + 1) lv (v :: st) w Q) : RR g own cc nL ret nm d kc ks rk rn pc lv (.int i :: .ref (gb g + a) :: st) w Q := by
  intro p e s m args below meth c H locs cells slots ls hj hr h1 h2 hl
  subst hij
  subst hv
  have K2 := K p e s m args below meth c H locs cells slots ls hj hr h1 h2 hl
  have hin := vp_in_nI hjn.1 hjn.2
  have hcl : (nI j).toNatClampNeg = j := nI_clamp (Nat.lt_trans hjn.1 hjn.2)
  rcases hkd with rfl | rfl | rfl | rfl
  · exact va_aldq hj.1.1 hj.1.2.1 hj.2.2.2.2.1 hr.2.1 a 2 (by rw [wl_at g w hs.1, cE_ref hs (by decide) (by decide)]) rfl hin hd (by rw [hcl]; exact K2)
  · exact va_aldq hj.1.1 hj.1.2.1 hj.2.2.2.2.1 hr.2.1 a 3 (by rw [wl_at g w hs.1, cE_ref hs (by decide) (by decide)]) rfl hin hd (by rw [hcl]; exact K2)
  · exact va_aldq hj.1.1 hj.1.2.1 hj.2.2.2.2.1 hr.2.1 a 4 (by rw [wl_at g w hs.1, cE_ref hs (by decide) (by decide)]) rfl hin hd (by rw [hcl]; exact K2)
  · exact va_aldq hj.1.1 hj.1.2.1 hj.2.2.2.2.1 hr.2.1 a 5 (by rw [wl_at g w hs.1, cE_ref hs (by decide) (by decide)]) rfl hin hd (by rw [hcl]; exact K2)
theorem jr_alen {a kd n : Nat} (hs : jK w a kd n) (hkd : kd = 10 ∨ kd = 11) (hd : decode cc pc = .ok (.arraylength, 1)) (K : RR g own cc nL ret nm d kc ks rk rn (pc + 1) lv (.int (nI n) :: st) w Q) : RR g own cc nL ret nm d kc ks rk rn pc lv (.ref (gb g + a) :: st) w Q := by
  intro p e s m args below meth c H locs cells slots ls hj hr h1 h2 hl
  have K2 := K p e s m args below meth c H locs cells slots ls hj hr h1 h2 hl
  rcases hkd with rfl | rfl
  · exact va_alen (x := (n, .inl (wI w a))) hj.1.1 hj.1.2.1 hj.2.2.2.2.1 hr.2.1 a 0 (by rw [wl_at g w hs.1, cE_int hs (by decide) (by decide)]) rfl rfl hd K2
  · exact va_alen (x := (n, .inl (wI w a))) hj.1.1 hj.1.2.1 hj.2.2.2.2.1 hr.2.1 a 1 (by rw [wl_at g w hs.1, cE_int hs (by decide) (by decide)]) rfl rfl hd K2
theorem jr_iast {a n : Nat} {i x : Int32} (j : Nat) (hs : jK w a 11 n) (hij : i = nI j) (hjn : j < n ∧ n < 2 ^ 31) (hd : decode cc pc = .ok (.iastore, 1)) (K : RR g own cc nL ret nm d kc ks rk rn (pc + 1) lv st (sR w a (upd (wI w a) j x)) Q) : RR g own cc nL ret nm d kc ks rk rn pc lv (.int x :: .int i :: .ref (gb g + a) :: st) w Q := by
  intro p e s m args below meth c H locs cells slots ls hj hr h1 h2 hl
  subst hij
  have hcl : (nI j).toNatClampNeg = j := nI_clamp (Nat.lt_trans hjn.1 hjn.2)
  have ha : (wl g w)[a]? = some (gb g + a, .inl (gc g 1, n, .inl (wI w a))) := by rw [wl_at g w hs.1, cE_int hs (by decide) (by decide)]
  have hP := hr.2.1
  have hD := wl_D g w
  refine W.iast hj.1.1 hj.1.2.1 (hP a _ ha) ((hj.2.2.2.2.1.2 1 _ rfl).1 n (fun j => .int (wI w a j))) (fun q => by cases q) (by show ¬ (nI j < 0 ∨ (arrV _ _ _).slots.size ≤ _); rw [arrV_size]; exact vp_in_nI hjn.1 hjn.2) rfl rfl hd fun H1 e1 z oq => ?_
  have hP' := hP.set hD ha (e := .inl (gc g 1, n, .inl (upd (wI w a) j x))) (by
    show H1[gb g + a]? = some (vp_cell _ _)
    rw [e1]
    rw [vp_cell_i, vp_cell_i, arrV_store, hcl]
    congr 2
    funext q
    by_cases hq : q = j
    · subst hq; simp [updV, upd]
    · simp [updV, upd, hq]) oq
  rw [wl_set (w' := sR w a (upd (wI w a) j x)) hs.1 rfl (by rw [cE_int (hs.sR _ _) (by decide) (by decide), wI_sR_s]) (fun i hi => cE_sR_o hi)] at hP'
  exact K p e s m args below meth c H1 _ cells slots ls hj ⟨by rw [z]; exact hr.1, hP', hr.2.2.put z oq (hD.2 a _ ha)⟩ h1 h2 hl
theorem jr_bast {a n : Nat} {i x : Int32} (j : Nat) (hs : jK w a 10 n) (hij : i = nI j) (hjn : j < n ∧ n < 2 ^ 31) (hd : decode cc pc = .ok (.bastore, 1)) (K : RR g own cc nL ret nm d kc ks rk rn (pc + 1) lv st (sR w a (upd (wI w a) j x.toInt8.toInt32)) Q) : RR g own cc nL ret nm d kc ks rk rn pc lv (.int x :: .int i :: .ref (gb g + a) :: st) w Q := by
  intro p e s m args below meth c H locs cells slots ls hj hr h1 h2 hl
  subst hij
  have hcl : (nI j).toNatClampNeg = j := nI_clamp (Nat.lt_trans hjn.1 hjn.2)
  have ha : (wl g w)[a]? = some (gb g + a, .inl (gc g 0, n, .inl (wI w a))) := by rw [wl_at g w hs.1, cE_int hs (by decide) (by decide)]
  have hP := hr.2.1
  have hD := wl_D g w
  refine W.bast hj.1.1 hj.1.2.1 (hP a _ ha) ((hj.2.2.2.2.1.2 0 _ rfl).1 n (fun j => .int (wI w a j))) (fun q => by cases q) (by show ¬ (nI j < 0 ∨ (arrV _ _ _).slots.size ≤ _); rw [arrV_size]; exact vp_in_nI hjn.1 hjn.2) rfl rfl hd fun H1 e1 z oq => ?_
  have hP' := hP.set hD ha (e := .inl (gc g 0, n, .inl (upd (wI w a) j x.toInt8.toInt32))) (by
    show H1[gb g + a]? = some (vp_cell _ _)
    rw [e1]
    rw [vp_cell_i, vp_cell_i, arrV_store, hcl]
    congr 2
    funext q
    by_cases hq : q = j
    · subst hq
      have := vp_nar_byte x
      simp [updV, upd, narrow]
    · simp [updV, upd, hq]) oq
  rw [wl_set (w' := sR w a (upd (wI w a) j x.toInt8.toInt32)) hs.1 rfl (by rw [cE_int (hs.sR _ _) (by decide) (by decide), wI_sR_s]) (fun i hi => cE_sR_o hi)] at hP'
  exact K p e s m args below meth c H1 _ cells slots ls hj ⟨by rw [z]; exact hr.1, hP', hr.2.2.put z oq (hD.2 a _ ha)⟩ h1 h2 hl
theorem jr_aast_g {a b kd n ci t0 : Nat} {r : vw_C} {i : Int32} (j : Nat) (hs : jK w a kd n) (hb : jK w b ci 0) (hkd : ¬ kd < 12 ∧ ci < 10) (hc : kcl[ci]? = some r) (ht : (jtys g)[t0]? = some (gc g (kd - 10), .object r.1)) (hij : i = nI j) (hjn : j < n ∧ n < 2 ^ 31) (hd : decode cc pc = .ok (.aastore, 1)) (K : RR g own cc nL ret nm d kc ks rk rn (pc + 1) lv st (sP w a (uF (wF w a) j (some b))) Q) : RR g own cc nL ret nm d kc ks rk rn pc lv (.ref (gb g + b) :: .int i :: .ref (gb g + a) :: st) w Q := by
  intro p e s m args below meth c H locs cells slots ls hj hr h1 h2 hl
  subst hij
  have hcl : (nI j).toNatClampNeg = j := nI_clamp (Nat.lt_trans hjn.1 hjn.2)
  have hin : vp_in (nI j) n := vp_in_nI hjn.1 hjn.2
  have ha : (wl g w)[a]? = some (gb g + a, .inl (gc g (kd - 10), n, .inr (.inr (.inr (.inr (fun j => (wF w a j).map (fun i => gb g + i))))))) := by rw [wl_at g w hs.1, cE_ref hs (by omega) hkd.1]
  have hv : (wl g w)[b]? = some (gb g + b, .inr (ci, jfs ci (wI w b) (fun k => jrf g (wF w b k)))) := by rw [wl_at g w hb.1, cE_obj hb hkd.2]
  have hP := hr.2.1
  have hK := hj.2.2.2.2.1
  have hD := wl_D g w
  have h0 : ¬ nI j < 0 := fun q => hin (Or.inl q)
  obtain ⟨r', hr', cellV, g1, g2, g3, -⟩ := hP b _ hv
  have hcls := (hK.1 ci r hc).2
  obtain ⟨kA, comp, k1, k2, k3, -⟩ := (hK.2 t0 _ ht).2
  have hcomp : comp = (gD g).1 ci := Option.some.inj (k3.symm.trans hcls.1)
  subst hcomp
  obtain ⟨kC, hkC, -⟩ := hcls.2
  refine W.aast hj.1.1 hj.1.2.1 (hP a _ ha) (fun q h => by cases h) (fun h => by cases h) k1 k2 rfl hkC ⟨h0, by show _ < (arrV _ _ _).slots.size; rw [arrV_size, hcl]; exact hjn.1⟩ g1 (fun q h => by rw [g3] at h; cases h) (by rw [g2]; exact hkC) (by rw [g2]; exact va_assign hcls) rfl rfl hd fun H1 e1 z oq => ?_
  have hP' := hP.set hD ha (e := .inl (gc g (kd - 10), n, .inr (.inr (.inr (.inr (fun q => ((uF (wF w a) j (some b)) q).map (fun i => gb g + i))))))) (by
    show H1[gb g + a]? = some (vp_cell _ _)
    rw [e1]
    rw [vp_cell_q, vp_cell_q, arrV_store, hcl]
    congr 2
    funext q
    by_cases hq : q = j
    · subst hq; simp [updV, uF, va_rf]
    · simp [updV, uF, hq]) oq
  rw [wl_set (w' := sP w a (uF (wF w a) j (some b))) hs.1 rfl (by rw [cE_ref (hs.sP _ _) (by omega) hkd.1, wF_sP_s]) (fun i hi => cE_sP_o hi)] at hP'
  exact K p e s m args below meth c H1 _ cells slots ls hj ⟨by rw [z]; exact hr.1, hP', hr.2.2.put z oq (hD.2 a _ ha)⟩ h1 h2 hl
theorem jr_aastN_g {a kd n t0 : Nat} {C : String} {i : Int32} (j : Nat) (hs : jK w a kd n) (hkd : ¬ kd < 12) (ht : (jtys g)[t0]? = some (gc g (kd - 10), .object C)) (hij : i = nI j) (hjn : j < n ∧ n < 2 ^ 31) (hd : decode cc pc = .ok (.aastore, 1)) (K : RR g own cc nL ret nm d kc ks rk rn (pc + 1) lv st (sP w a (uF (wF w a) j none)) Q) : RR g own cc nL ret nm d kc ks rk rn pc lv (.null :: .int i :: .ref (gb g + a) :: st) w Q := by
  intro p e s m args below meth c H locs cells slots ls hj hr h1 h2 hl
  subst hij
  have hcl : (nI j).toNatClampNeg = j := nI_clamp (Nat.lt_trans hjn.1 hjn.2)
  have hin : vp_in (nI j) n := vp_in_nI hjn.1 hjn.2
  have ha : (wl g w)[a]? = some (gb g + a, .inl (gc g (kd - 10), n, .inr (.inr (.inr (.inr (fun j => (wF w a j).map (fun i => gb g + i))))))) := by rw [wl_at g w hs.1, cE_ref hs (by omega) hkd]
  have hP := hr.2.1
  have hK := hj.2.2.2.2.1
  have hD := wl_D g w
  refine va_WaastN (C := C) hj.1.1 hj.1.2.1 (hP a _ ha) ((hK.2 t0 _ ht).1 n (fun j => va_rf ((wF w a j).map (fun i => gb g + i)))) (fun h => by cases h) (by show ¬ (nI j < 0 ∨ (arrV _ _ _).slots.size ≤ _); rw [arrV_size]; exact hin) rfl rfl hd fun H1 e1 z oq => ?_
  have hP' := hP.set hD ha (e := .inl (gc g (kd - 10), n, .inr (.inr (.inr (.inr (fun q => ((uF (wF w a) j none) q).map (fun i => gb g + i))))))) (by
    show H1[gb g + a]? = some (vp_cell _ _)
    rw [e1]
    rw [vp_cell_q, vp_cell_q, arrV_store, hcl]
    congr 2
    funext q
    by_cases hq : q = j
    · subst hq; simp [updV, uF, va_rf]
    · simp [updV, uF, hq]) oq
  rw [wl_set (w' := sP w a (uF (wF w a) j none)) hs.1 rfl (by rw [cE_ref (hs.sP _ _) (by omega) hkd, wF_sP_s]) (fun i hi => cE_sP_o hi)] at hP'
  exact K p e s m args below meth c H1 _ cells slots ls hj ⟨by rw [z]; exact hr.1, hP', hr.2.2.put z oq (hD.2 a _ ha)⟩ h1 h2 hl
-- makings
theorem jr_push {H H1 : Heap} {s : State} {locs : List Loc} {kd n : Nat} (hr : Rp g w s H locs) (z1 : H1.size = gb g + wn w + 1) (o1 : ∀ q, q < gb g + wn w → H1[q]? = H[q]?) (he : va_at (gD g) kcl (gb g + wn w, cE g (pN w kd n) (wn w)) H1) : Rp g (pN w kd n) s H1 locs := by
  obtain ⟨h1, h2, h3⟩ := hr
  refine ⟨by rw [wn_pN]; omega, ?_, ?_⟩
  · have hP1 : va_P (gD g) kcl (wl g w) H1 := h2.kept (fun k x hx => o1 x.1 (by rw [← h1]; exact (h2 k x hx).lt))
    have hP2 : va_P (gD g) kcl [(gb g + wn w, cE g (pN w kd n) (wn w))] H1 := by
      intro k x hx
      have hz : k < 1 := (List.getElem?_eq_some_iff.mp hx).1
      rw [show k = 0 by omega] at hx
      cases hx
      exact he
    have := hP1.app hP2
    rwa [wl_push rfl] at this
  · exact ⟨Nat.le_trans h3.1 (by omega), fun x q1 q2 => (o1 x (by rw [← h1]; exact Nat.lt_of_lt_of_le q1 h3.1)).trans (h3.2.1 x q1 q2), h3.2.2⟩
theorem jr_new {ci idx N : Nat} {C : String} {T : u_T} {ty0 : Nat → FieldType} (hcl : Cond.classLink own idx C ∈ kw) (hinst : Cond.instantiable C N ∈ kw) (hini : Cond.initialized C ∈ kw) (hu : ∀ w ∈ u_ws C T N, w ∈ kw) (hc : kcl[ci]? = some (C, T, N)) (hci : ci < 10) (hty : ∀ k, k < N → parseFieldDescriptor (T k).2.2.1 = some (ty0 k))
    (hfs : ∀ j, j < N → defaultValue (ty0 j) = vp_V (jfs ci (fun _ => 0) (fun _ => .null)) j) (hrk : 1 ≤ rk ∧ N ≤ rn) (hd : decode cc pc = .ok (.new idx, 3)) (K : RR g own cc nL ret nm d kc ks (rk - 1) (rn - N) (pc + 3) lv (.ref (gb g + wn w) :: st) (pN w ci 0) Q) : RR g own cc nL ret nm d kc ks rk rn pc lv st w Q := by
  intro p e s m args below meth c H locs cells slots ls hj hr h1 h2 hl
  have hts := hj.1.2.2.2.2
  have hKn := hj.2.2.2.2.1.1 ci _ hc
  refine W.newcK hj.1.1 hj.1.2.1 hj.1.2.2.2.1 (hts _ hcl) (hts _ hinst) (hts _ hini) rfl hd (by show cells + 1 ≤ kc; omega) (by show slots + N ≤ ks; omega) hKn.2.1 hr.1 fun H1 kC hkC e1 z1 o1 => ?_
  refine K p e s m args below meth c H1 locs (cells + 1) (slots + N) ls hj (jr_push hr z1 o1 ?_) (by omega) (by omega) hl
  rw [cE_obj (jK_new w ci 0) hci]
  refine ⟨_, hc, (u_born ty0 hts hu hKn hkC e1 hty).to ?_⟩
  intro j hj2
  rw [hfs j hj2]
  simp only [wI_pN, wF_pN, if_true]
  rfl
theorem jr_newI {x : Int32} (n : Nat) (hx : x = nI n) (hn : n < 100000) (ha : Cond.arrayClass .int ∈ kw) (hrk : 1 ≤ rk ∧ n ≤ rn) (hd : decode cc pc = .ok (.newarray .int, 2)) (K : RR g own cc nL ret nm d kc ks (rk - 1) (rn - n) (pc + 2) lv (.ref (gb g + wn w) :: st) (pN w 11 n) Q) : RR g own cc nL ret nm d kc ks rk rn pc lv (.int x :: st) w Q := by
  intro p e s m args below meth c H locs cells slots ls hj hr h1 h2 hl
  subst hx
  have hcl : (nI n).toNatClampNeg = n := nI_clamp (Nat.lt_trans hn (by decide))
  refine va_newaK (atype := .int) hj.1.1 hj.1.2.1 (hj.1.2.2.2.2 _ ha) rfl hd rfl (nI_pos (Nat.lt_trans hn (by decide))) hcl (by show n * 4 ≤ _; omega) (by show cells + 1 ≤ kc; omega) (by show slots + n ≤ ks; omega) hr.1 fun H1 cA e1 z1 o1 hAr hNm => ?_
  have hcA : cA = gc g 1 := Option.some.inj (hNm.symm.trans (hj.2.2.2.2.1.2 1 _ rfl).2)
  subst hcA
  refine K p e s m args below meth c H1 locs (cells + 1) (slots + n) ls hj (jr_push hr z1 o1 ?_) (by omega) (by omega) hl
  rw [cE_int (jK_new w 11 n) (by decide) (by decide)]
  simp only [wI_pN, if_true]
  exact e1
theorem jr_newB {x : Int32} (n : Nat) (hx : x = nI n) (hn : n < 100000) (ha : Cond.arrayClass .byte ∈ kw) (hrk : 1 ≤ rk ∧ n ≤ rn) (hd : decode cc pc = .ok (.newarray .byte, 2)) (K : RR g own cc nL ret nm d kc ks (rk - 1) (rn - n) (pc + 2) lv (.ref (gb g + wn w) :: st) (pN w 10 n) Q) : RR g own cc nL ret nm d kc ks rk rn pc lv (.int x :: st) w Q := by
  intro p e s m args below meth c H locs cells slots ls hj hr h1 h2 hl
  subst hx
  have hcl : (nI n).toNatClampNeg = n := nI_clamp (Nat.lt_trans hn (by decide))
  refine va_newaK (atype := .byte) hj.1.1 hj.1.2.1 (hj.1.2.2.2.2 _ ha) rfl hd rfl (nI_pos (Nat.lt_trans hn (by decide))) hcl (by show n * 1 ≤ _; omega) (by show cells + 1 ≤ kc; omega) (by show slots + n ≤ ks; omega) hr.1 fun H1 cA e1 z1 o1 hAr hNm => ?_
  have hcA : cA = gc g 0 := Option.some.inj (hNm.symm.trans (hj.2.2.2.2.1.2 0 _ rfl).2)
  subst hcA
  refine K p e s m args below meth c H1 locs (cells + 1) (slots + n) ls hj (jr_push hr z1 o1 ?_) (by omega) (by omega) hl
  rw [cE_int (jK_new w 10 n) (by decide) (by decide)]
  simp only [wI_pN, if_true]
  exact e1
theorem jr_newA_g {x : Int32} {idx kd t0 : Nat} {C : String} (n : Nat) (hx : x = nI n) (hn : n < 100000) (hcl : Cond.classLink own idx C ∈ kw) (hC : C ∈ jarr) (hkd : ¬ kd < 12) (ht : (jtys g)[t0]? = some (gc g (kd - 10), .object C)) (hrk : 1 ≤ rk ∧ n ≤ rn) (hd : decode cc pc = .ok (.anewarray idx, 3)) (K : RR g own cc nL ret nm d kc ks (rk - 1) (rn - n) (pc + 3) lv (.ref (gb g + wn w) :: st) (pN w kd n) Q) : RR g own cc nL ret nm d kc ks rk rn pc lv (.int x :: st) w Q := by
  intro p e s m args below meth c H locs cells slots ls hj hr h1 h2 hl
  subst hx
  have hcln : (nI n).toNatClampNeg = n := nI_clamp (Nat.lt_trans hn (by decide))
  have hover : va_AO C s := hj.2.2.2.2.2.2.2.2.2.2.2.2.2 C hC
  refine W.anew hj.1.1 hj.1.2.1 hj.1.2.2.2.1 (hj.1.2.2.2.2 _ hcl) (va_AO.use hover) rfl hd rfl (nI_pos (Nat.lt_trans hn (by decide))) (by rw [hcln]; omega) (by show cells + 1 ≤ kc; omega) (by show slots + (nI n).toNatClampNeg ≤ ks; rw [hcln]; omega) fun cA kA comp f1 f2 f3 f4 => ?_
  rw [hcln]
  obtain ⟨kA', comp', k1, k2, k3, k4⟩ := (hj.2.2.2.2.1.2 t0 _ ht).2
  have hcA : cA = gc g (kd - 10) := Option.some.inj (f1.symm.trans k4)
  subst hcA
  generalize hH1 : H.push ({ cls := gc g (kd - 10), slots := Array.replicate n .null, vm := .none } : Cell) = H1
  have z1 : H1.size = gb g + wn w + 1 := by rw [← hH1, Array.size_push, hr.1]
  have e1 : H1[gb g + wn w]? = some (arrV (gc g (kd - 10)) n (fun _ => .null)) := by rw [← hH1, ← hr.1, Array.getElem?_push_size, ← arrV_new]
  have o1 : ∀ q : Nat, q < gb g + wn w → H1[q]? = H[q]? := fun q hq => by rw [← hH1, Array.getElem?_push, if_neg (by rw [hr.1]; exact Nat.ne_of_lt hq)]
  show W _ _ _ _ _ _ _ _ _ _ _ _ _ _ _ (F0 m (pc + 3) ls (.ref H.size :: st))
  rw [hr.1]
  refine K p e s m args below meth c H1 locs (cells + 1) (slots + n) ls hj (jr_push hr z1 o1 ?_) (by omega) (by omega) hl
  rw [cE_ref (jK_new w kd n) (by omega) hkd]
  simp only [wF_pN, if_true]
  exact e1
theorem jr_objInit {idx a : Nat} (hlk : Cond.methodLink own idx objectInit ∈ kw) (hin : Cond.instanceMethod objectInit ∈ kw) (hco : Cond.code objectInit ⟨#[0xb1]⟩ 1 none ∈ kw) (hdp : 1 ≤ d) (hst : (st.map fun v => v.category).sum ≤ 8) (hd : decode cc pc = .ok (.invokespecial idx, 3)) (K : RR g own cc nL ret nm d kc ks rk rn (pc + 3) lv st w Q) : RR g own cc nL ret nm d kc ks rk rn pc lv (.ref a :: st) w Q := by
  intro p e s m args below meth c H locs cells slots ls hj hr h1 h2 hl
  have hts := hj.1.2.2.2.2
  refine W.objInit hj.1.1 hj.1.2.1 hj.1.2.2.2.1 (hts _ hlk) (hts _ hin) (hts _ hco) rfl (hl.1.trans hj.1.2.2.1.symm) rfl hd hdp (by show 2 * 0 + _ + 12 ≤ 40 * d; omega) (K p e s m args below meth c H locs cells slots ls hj hr h1 h2 hl)

end
end
