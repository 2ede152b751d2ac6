section
-- ===== PART A: goes FIRST, ahead of the names: the tables' words, and 'selects' of the private methods out of them =====
/-- a private method of a class that the tables say can be made, by its rows of tables_1 -/
def lw_okq (q : MethodName × Nat) : Prop := (q.1.cls ≠ "java/lang/invoke/MethodHandle" ∧ q.1.cls ≠ "java/lang/invoke/VarHandle") ∧ Cond.instantiable q.1.cls q.2 ∈ tables_1 ∧ Cond.privateMethod q.1 ∈ tables_1 ∧ Cond.instanceMethod q.1 ∈ tables_1
theorem lw_p0 : lw_okq (⟨"StrokesHeard$Night", "hearMinute", "(I)V"⟩, 14) := ⟨⟨by decide +kernel, by decide +kernel⟩, List.mem_of_getElem? (i := 29) (by decide +kernel), List.mem_of_getElem? (i := 438) (by decide +kernel), List.mem_of_getElem? (i := 439) (by decide +kernel)⟩
theorem lw_p1 : lw_okq (⟨"StrokesHeard$Guess", "addAt", "(II)V"⟩, 6) := ⟨⟨by decide +kernel, by decide +kernel⟩, List.mem_of_getElem? (i := 123) (by decide +kernel), List.mem_of_getElem? (i := 488) (by decide +kernel), List.mem_of_getElem? (i := 489) (by decide +kernel)⟩
theorem lw_p2 : lw_okq (⟨"StrokesHeard$Windows", "splitLeavesDoubt", "([II)Z"⟩, 6) := ⟨⟨by decide +kernel, by decide +kernel⟩, List.mem_of_getElem? (i := 153) (by decide +kernel), List.mem_of_getElem? (i := 539) (by decide +kernel), List.mem_of_getElem? (i := 540) (by decide +kernel)⟩
theorem lw_p3 : lw_okq (⟨"StrokesHeard$Windows", "partOf", "(III)I"⟩, 6) := ⟨⟨by decide +kernel, by decide +kernel⟩, List.mem_of_getElem? (i := 153) (by decide +kernel), List.mem_of_getElem? (i := 544) (by decide +kernel), List.mem_of_getElem? (i := 545) (by decide +kernel)⟩
theorem lw_p4 : lw_okq (⟨"StrokesHeard", "putBytes", "(I)V"⟩, 13) := ⟨⟨by decide +kernel, by decide +kernel⟩, List.mem_of_getElem? (i := 21) (by decide +kernel), List.mem_of_getElem? (i := 598) (by decide +kernel), List.mem_of_getElem? (i := 599) (by decide +kernel)⟩
theorem lw_p5 : lw_okq (⟨"StrokesHeard$TextReader", "advance", "()V"⟩, 9) := ⟨⟨by decide +kernel, by decide +kernel⟩, List.mem_of_getElem? (i := 178) (by decide +kernel), List.mem_of_getElem? (i := 615) (by decide +kernel), List.mem_of_getElem? (i := 616) (by decide +kernel)⟩
theorem lw_p6 : lw_okq (⟨"StrokesHeard$TextReader", "readKey", "()Z"⟩, 9) := ⟨⟨by decide +kernel, by decide +kernel⟩, List.mem_of_getElem? (i := 178) (by decide +kernel), List.mem_of_getElem? (i := 625) (by decide +kernel), List.mem_of_getElem? (i := 626) (by decide +kernel)⟩
theorem lw_p7 : lw_okq (⟨"StrokesHeard$TextReader", "isWord", "(Ljava/lang/String;)Z"⟩, 9) := ⟨⟨by decide +kernel, by decide +kernel⟩, List.mem_of_getElem? (i := 178) (by decide +kernel), List.mem_of_getElem? (i := 630) (by decide +kernel), List.mem_of_getElem? (i := 631) (by decide +kernel)⟩
theorem lw_p8 : lw_okq (⟨"StrokesHeard$TextReader", "readOr", "(II)Z"⟩, 9) := ⟨⟨by decide +kernel, by decide +kernel⟩, List.mem_of_getElem? (i := 178) (by decide +kernel), List.mem_of_getElem? (i := 684) (by decide +kernel), List.mem_of_getElem? (i := 685) (by decide +kernel)⟩
theorem lw_p9 : lw_okq (⟨"StrokesHeard$TextReader", "readAnd", "(II)Z"⟩, 9) := ⟨⟨by decide +kernel, by decide +kernel⟩, List.mem_of_getElem? (i := 178) (by decide +kernel), List.mem_of_getElem? (i := 688) (by decide +kernel), List.mem_of_getElem? (i := 689) (by decide +kernel)⟩
theorem lw_p10 : lw_okq (⟨"StrokesHeard$TextReader", "readTest", "(II)Z"⟩, 9) := ⟨⟨by decide +kernel, by decide +kernel⟩, List.mem_of_getElem? (i := 178) (by decide +kernel), List.mem_of_getElem? (i := 692) (by decide +kernel), List.mem_of_getElem? (i := 693) (by decide +kernel)⟩
theorem lw_p11 : lw_okq (⟨"StrokesHeard$TextReader", "readSum", "(II)Z"⟩, 9) := ⟨⟨by decide +kernel, by decide +kernel⟩, List.mem_of_getElem? (i := 178) (by decide +kernel), List.mem_of_getElem? (i := 696) (by decide +kernel), List.mem_of_getElem? (i := 697) (by decide +kernel)⟩
theorem lw_p12 : lw_okq (⟨"StrokesHeard$TextReader", "readTerm", "(II)Z"⟩, 9) := ⟨⟨by decide +kernel, by decide +kernel⟩, List.mem_of_getElem? (i := 178) (by decide +kernel), List.mem_of_getElem? (i := 700) (by decide +kernel), List.mem_of_getElem? (i := 701) (by decide +kernel)⟩
theorem lw_p13 : lw_okq (⟨"StrokesHeard$TextReader", "readPiece", "(II)Z"⟩, 9) := ⟨⟨by decide +kernel, by decide +kernel⟩, List.mem_of_getElem? (i := 178) (by decide +kernel), List.mem_of_getElem? (i := 704) (by decide +kernel), List.mem_of_getElem? (i := 705) (by decide +kernel)⟩
theorem lw_p14 : lw_okq (⟨"StrokesHeard$TextReader", "readNumber", "()Z"⟩, 9) := ⟨⟨by decide +kernel, by decide +kernel⟩, List.mem_of_getElem? (i := 178) (by decide +kernel), List.mem_of_getElem? (i := 708) (by decide +kernel), List.mem_of_getElem? (i := 709) (by decide +kernel)⟩
theorem lw_p15 : lw_okq (⟨"StrokesHeard$TextReader", "addStep", "(I)V"⟩, 9) := ⟨⟨by decide +kernel, by decide +kernel⟩, List.mem_of_getElem? (i := 178) (by decide +kernel), List.mem_of_getElem? (i := 712) (by decide +kernel), List.mem_of_getElem? (i := 713) (by decide +kernel)⟩
def lw_privs_1 : List (MethodName × Nat) := [(⟨"StrokesHeard$Night", "hearMinute", "(I)V"⟩, 14), (⟨"StrokesHeard$Guess", "addAt", "(II)V"⟩, 6), (⟨"StrokesHeard$Windows", "splitLeavesDoubt", "([II)Z"⟩, 6), (⟨"StrokesHeard$Windows", "partOf", "(III)I"⟩, 6), (⟨"StrokesHeard", "putBytes", "(I)V"⟩, 13), (⟨"StrokesHeard$TextReader", "advance", "()V"⟩, 9), (⟨"StrokesHeard$TextReader", "readKey", "()Z"⟩, 9), (⟨"StrokesHeard$TextReader", "isWord", "(Ljava/lang/String;)Z"⟩, 9), (⟨"StrokesHeard$TextReader", "readOr", "(II)Z"⟩, 9), (⟨"StrokesHeard$TextReader", "readAnd", "(II)Z"⟩, 9), (⟨"StrokesHeard$TextReader", "readTest", "(II)Z"⟩, 9), (⟨"StrokesHeard$TextReader", "readSum", "(II)Z"⟩, 9), (⟨"StrokesHeard$TextReader", "readTerm", "(II)Z"⟩, 9), (⟨"StrokesHeard$TextReader", "readPiece", "(II)Z"⟩, 9), (⟨"StrokesHeard$TextReader", "readNumber", "()Z"⟩, 9), (⟨"StrokesHeard$TextReader", "addStep", "(I)V"⟩, 9)]
theorem lw_r1 : ∀ q ∈ lw_privs_1, lw_okq q := List.forall_mem_cons.mpr ⟨lw_p0, List.forall_mem_cons.mpr ⟨lw_p1, List.forall_mem_cons.mpr ⟨lw_p2, List.forall_mem_cons.mpr ⟨lw_p3, List.forall_mem_cons.mpr ⟨lw_p4, List.forall_mem_cons.mpr ⟨lw_p5, List.forall_mem_cons.mpr ⟨lw_p6, List.forall_mem_cons.mpr ⟨lw_p7, List.forall_mem_cons.mpr ⟨lw_p8, List.forall_mem_cons.mpr ⟨lw_p9, List.forall_mem_cons.mpr ⟨lw_p10, List.forall_mem_cons.mpr ⟨lw_p11, List.forall_mem_cons.mpr ⟨lw_p12, List.forall_mem_cons.mpr ⟨lw_p13, List.forall_mem_cons.mpr ⟨lw_p14, List.forall_mem_cons.mpr ⟨lw_p15, fun _ h => absurd h List.not_mem_nil⟩⟩⟩⟩⟩⟩⟩⟩⟩⟩⟩⟩⟩⟩⟩⟩
theorem lw_p16 : lw_okq (⟨"StrokesHeard$TextReader", "readName", "()Z"⟩, 9) := ⟨⟨by decide +kernel, by decide +kernel⟩, List.mem_of_getElem? (i := 178) (by decide +kernel), List.mem_of_getElem? (i := 716) (by decide +kernel), List.mem_of_getElem? (i := 717) (by decide +kernel)⟩
theorem lw_p17 : lw_okq (⟨"StrokesHeard$TextReader", "isSign", "(C)Z"⟩, 9) := ⟨⟨by decide +kernel, by decide +kernel⟩, List.mem_of_getElem? (i := 178) (by decide +kernel), List.mem_of_getElem? (i := 778) (by decide +kernel), List.mem_of_getElem? (i := 779) (by decide +kernel)⟩
theorem lw_p18 : lw_okq (⟨"StrokesHeard$TextReader", "signAmong", "(Ljava/lang/String;)I"⟩, 9) := ⟨⟨by decide +kernel, by decide +kernel⟩, List.mem_of_getElem? (i := 178) (by decide +kernel), List.mem_of_getElem? (i := 783) (by decide +kernel), List.mem_of_getElem? (i := 784) (by decide +kernel)⟩
theorem lw_p19 : lw_okq (⟨"StrokesHeardModel", "comes", "(III)V"⟩, 32) := ⟨⟨by decide +kernel, by decide +kernel⟩, List.mem_of_getElem? (i := 920) (by decide +kernel), List.mem_of_getElem? (i := 1035) (by decide +kernel), List.mem_of_getElem? (i := 1036) (by decide +kernel)⟩
theorem lw_p20 : lw_okq (⟨"StrokesHeardModel", "sets", "(III)V"⟩, 32) := ⟨⟨by decide +kernel, by decide +kernel⟩, List.mem_of_getElem? (i := 920) (by decide +kernel), List.mem_of_getElem? (i := 1039) (by decide +kernel), List.mem_of_getElem? (i := 1040) (by decide +kernel)⟩
theorem lw_p21 : lw_okq (⟨"StrokesHeardModel", "isClock", "(I)Z"⟩, 32) := ⟨⟨by decide +kernel, by decide +kernel⟩, List.mem_of_getElem? (i := 920) (by decide +kernel), List.mem_of_getElem? (i := 1047) (by decide +kernel), List.mem_of_getElem? (i := 1048) (by decide +kernel)⟩
theorem lw_p22 : lw_okq (⟨"StrokesHeardModel", "of", "(II)I"⟩, 32) := ⟨⟨by decide +kernel, by decide +kernel⟩, List.mem_of_getElem? (i := 920) (by decide +kernel), List.mem_of_getElem? (i := 1051) (by decide +kernel), List.mem_of_getElem? (i := 1052) (by decide +kernel)⟩
theorem lw_p23 : lw_okq (⟨"StrokesHeardModel", "timeNow", "()I"⟩, 32) := ⟨⟨by decide +kernel, by decide +kernel⟩, List.mem_of_getElem? (i := 920) (by decide +kernel), List.mem_of_getElem? (i := 1055) (by decide +kernel), List.mem_of_getElem? (i := 1056) (by decide +kernel)⟩
theorem lw_p24 : lw_okq (⟨"StrokesHeardModel", "strikes", "(II)I"⟩, 32) := ⟨⟨by decide +kernel, by decide +kernel⟩, List.mem_of_getElem? (i := 920) (by decide +kernel), List.mem_of_getElem? (i := 1059) (by decide +kernel), List.mem_of_getElem? (i := 1060) (by decide +kernel)⟩
theorem lw_p25 : lw_okq (⟨"StrokesHeardModel", "atHour", "(II)I"⟩, 32) := ⟨⟨by decide +kernel, by decide +kernel⟩, List.mem_of_getElem? (i := 920) (by decide +kernel), List.mem_of_getElem? (i := 1063) (by decide +kernel), List.mem_of_getElem? (i := 1064) (by decide +kernel)⟩
theorem lw_p26 : lw_okq (⟨"StrokesHeardModel", "again", "(II)I"⟩, 32) := ⟨⟨by decide +kernel, by decide +kernel⟩, List.mem_of_getElem? (i := 920) (by decide +kernel), List.mem_of_getElem? (i := 1067) (by decide +kernel), List.mem_of_getElem? (i := 1068) (by decide +kernel)⟩
theorem lw_p27 : lw_okq (⟨"StrokesHeardModel", "counts", "(I)I"⟩, 32) := ⟨⟨by decide +kernel, by decide +kernel⟩, List.mem_of_getElem? (i := 920) (by decide +kernel), List.mem_of_getElem? (i := 1071) (by decide +kernel), List.mem_of_getElem? (i := 1072) (by decide +kernel)⟩
theorem lw_p28 : lw_okq (⟨"StrokesHeardModel", "textAt", "(I)I"⟩, 32) := ⟨⟨by decide +kernel, by decide +kernel⟩, List.mem_of_getElem? (i := 920) (by decide +kernel), List.mem_of_getElem? (i := 1075) (by decide +kernel), List.mem_of_getElem? (i := 1076) (by decide +kernel)⟩
theorem lw_p29 : lw_okq (⟨"StrokesHeardModel", "worked", "(I)I"⟩, 32) := ⟨⟨by decide +kernel, by decide +kernel⟩, List.mem_of_getElem? (i := 920) (by decide +kernel), List.mem_of_getElem? (i := 1079) (by decide +kernel), List.mem_of_getElem? (i := 1080) (by decide +kernel)⟩
theorem lw_p30 : lw_okq (⟨"StrokesHeardModel", "worth", "(I)I"⟩, 32) := ⟨⟨by decide +kernel, by decide +kernel⟩, List.mem_of_getElem? (i := 920) (by decide +kernel), List.mem_of_getElem? (i := 1086) (by decide +kernel), List.mem_of_getElem? (i := 1087) (by decide +kernel)⟩
theorem lw_p31 : lw_okq (⟨"StrokesHeardModel", "becomes", "(II)I"⟩, 32) := ⟨⟨by decide +kernel, by decide +kernel⟩, List.mem_of_getElem? (i := 920) (by decide +kernel), List.mem_of_getElem? (i := 1102) (by decide +kernel), List.mem_of_getElem? (i := 1103) (by decide +kernel)⟩
def lw_privs_2 : List (MethodName × Nat) := [(⟨"StrokesHeard$TextReader", "readName", "()Z"⟩, 9), (⟨"StrokesHeard$TextReader", "isSign", "(C)Z"⟩, 9), (⟨"StrokesHeard$TextReader", "signAmong", "(Ljava/lang/String;)I"⟩, 9), (⟨"StrokesHeardModel", "comes", "(III)V"⟩, 32), (⟨"StrokesHeardModel", "sets", "(III)V"⟩, 32), (⟨"StrokesHeardModel", "isClock", "(I)Z"⟩, 32), (⟨"StrokesHeardModel", "of", "(II)I"⟩, 32), (⟨"StrokesHeardModel", "timeNow", "()I"⟩, 32), (⟨"StrokesHeardModel", "strikes", "(II)I"⟩, 32), (⟨"StrokesHeardModel", "atHour", "(II)I"⟩, 32), (⟨"StrokesHeardModel", "again", "(II)I"⟩, 32), (⟨"StrokesHeardModel", "counts", "(I)I"⟩, 32), (⟨"StrokesHeardModel", "textAt", "(I)I"⟩, 32), (⟨"StrokesHeardModel", "worked", "(I)I"⟩, 32), (⟨"StrokesHeardModel", "worth", "(I)I"⟩, 32), (⟨"StrokesHeardModel", "becomes", "(II)I"⟩, 32)]
theorem lw_r2 : ∀ q ∈ lw_privs_2, lw_okq q := List.forall_mem_cons.mpr ⟨lw_p16, List.forall_mem_cons.mpr ⟨lw_p17, List.forall_mem_cons.mpr ⟨lw_p18, List.forall_mem_cons.mpr ⟨lw_p19, List.forall_mem_cons.mpr ⟨lw_p20, List.forall_mem_cons.mpr ⟨lw_p21, List.forall_mem_cons.mpr ⟨lw_p22, List.forall_mem_cons.mpr ⟨lw_p23, List.forall_mem_cons.mpr ⟨lw_p24, List.forall_mem_cons.mpr ⟨lw_p25, List.forall_mem_cons.mpr ⟨lw_p26, List.forall_mem_cons.mpr ⟨lw_p27, List.forall_mem_cons.mpr ⟨lw_p28, List.forall_mem_cons.mpr ⟨lw_p29, List.forall_mem_cons.mpr ⟨lw_p30, List.forall_mem_cons.mpr ⟨lw_p31, fun _ h => absurd h List.not_mem_nil⟩⟩⟩⟩⟩⟩⟩⟩⟩⟩⟩⟩⟩⟩⟩⟩
theorem lw_p32 : lw_okq (⟨"StrokesHeardModel", "totalAt", "(I)I"⟩, 32) := ⟨⟨by decide +kernel, by decide +kernel⟩, List.mem_of_getElem? (i := 920) (by decide +kernel), List.mem_of_getElem? (i := 1123) (by decide +kernel), List.mem_of_getElem? (i := 1124) (by decide +kernel)⟩
theorem lw_p33 : lw_okq (⟨"StrokesHeardModel", "drawn", "()I"⟩, 32) := ⟨⟨by decide +kernel, by decide +kernel⟩, List.mem_of_getElem? (i := 920) (by decide +kernel), List.mem_of_getElem? (i := 1137) (by decide +kernel), List.mem_of_getElem? (i := 1138) (by decide +kernel)⟩
theorem lw_p34 : lw_okq (⟨"StrokesHeardModel", "goesOnMany", "(I)V"⟩, 32) := ⟨⟨by decide +kernel, by decide +kernel⟩, List.mem_of_getElem? (i := 920) (by decide +kernel), List.mem_of_getElem? (i := 1150) (by decide +kernel), List.mem_of_getElem? (i := 1151) (by decide +kernel)⟩
theorem lw_p35 : lw_okq (⟨"StrokesHeardModel", "goesOn", "()V"⟩, 32) := ⟨⟨by decide +kernel, by decide +kernel⟩, List.mem_of_getElem? (i := 920) (by decide +kernel), List.mem_of_getElem? (i := 1154) (by decide +kernel), List.mem_of_getElem? (i := 1155) (by decide +kernel)⟩
theorem lw_p36 : lw_okq (⟨"StrokesHeardModel", "findAll", "()V"⟩, 32) := ⟨⟨by decide +kernel, by decide +kernel⟩, List.mem_of_getElem? (i := 920) (by decide +kernel), List.mem_of_getElem? (i := 1173) (by decide +kernel), List.mem_of_getElem? (i := 1174) (by decide +kernel)⟩
theorem lw_p37 : lw_okq (⟨"StrokesHeardModel", "doesFit", "(I)Z"⟩, 32) := ⟨⟨by decide +kernel, by decide +kernel⟩, List.mem_of_getElem? (i := 920) (by decide +kernel), List.mem_of_getElem? (i := 1177) (by decide +kernel), List.mem_of_getElem? (i := 1178) (by decide +kernel)⟩
theorem lw_p38 : lw_okq (⟨"StrokesHeardModel", "manyFit", "()I"⟩, 32) := ⟨⟨by decide +kernel, by decide +kernel⟩, List.mem_of_getElem? (i := 920) (by decide +kernel), List.mem_of_getElem? (i := 1185) (by decide +kernel), List.mem_of_getElem? (i := 1186) (by decide +kernel)⟩
theorem lw_p39 : lw_okq (⟨"StrokesHeardModel", "hoursFit", "()I"⟩, 32) := ⟨⟨by decide +kernel, by decide +kernel⟩, List.mem_of_getElem? (i := 920) (by decide +kernel), List.mem_of_getElem? (i := 1189) (by decide +kernel), List.mem_of_getElem? (i := 1190) (by decide +kernel)⟩
theorem lw_p40 : lw_okq (⟨"StrokesHeardModel", "isSure", "()Z"⟩, 32) := ⟨⟨by decide +kernel, by decide +kernel⟩, List.mem_of_getElem? (i := 920) (by decide +kernel), List.mem_of_getElem? (i := 1193) (by decide +kernel), List.mem_of_getElem? (i := 1194) (by decide +kernel)⟩
theorem lw_p41 : lw_okq (⟨"StrokesHeardModel", "findMore", "(II)V"⟩, 32) := ⟨⟨by decide +kernel, by decide +kernel⟩, List.mem_of_getElem? (i := 920) (by decide +kernel), List.mem_of_getElem? (i := 1209) (by decide +kernel), List.mem_of_getElem? (i := 1210) (by decide +kernel)⟩
theorem lw_p42 : lw_okq (⟨"StrokesHeardModel", "offBy", "(II)I"⟩, 32) := ⟨⟨by decide +kernel, by decide +kernel⟩, List.mem_of_getElem? (i := 920) (by decide +kernel), List.mem_of_getElem? (i := 1229) (by decide +kernel), List.mem_of_getElem? (i := 1230) (by decide +kernel)⟩
theorem lw_p43 : lw_okq (⟨"StrokesHeardModel", "laysBy", "()V"⟩, 32) := ⟨⟨by decide +kernel, by decide +kernel⟩, List.mem_of_getElem? (i := 920) (by decide +kernel), List.mem_of_getElem? (i := 1240) (by decide +kernel), List.mem_of_getElem? (i := 1241) (by decide +kernel)⟩
theorem lw_p44 : lw_okq (⟨"StrokesHeardModel", "laysBack", "()V"⟩, 32) := ⟨⟨by decide +kernel, by decide +kernel⟩, List.mem_of_getElem? (i := 920) (by decide +kernel), List.mem_of_getElem? (i := 1244) (by decide +kernel), List.mem_of_getElem? (i := 1245) (by decide +kernel)⟩
theorem lw_p45 : lw_okq (⟨"StrokesHeardModel", "parse", "()I"⟩, 32) := ⟨⟨by decide +kernel, by decide +kernel⟩, List.mem_of_getElem? (i := 920) (by decide +kernel), List.mem_of_getElem? (i := 1272) (by decide +kernel), List.mem_of_getElem? (i := 1273) (by decide +kernel)⟩
theorem lw_p46 : lw_okq (⟨"StrokesHeardModel", "nextToken", "()V"⟩, 32) := ⟨⟨by decide +kernel, by decide +kernel⟩, List.mem_of_getElem? (i := 920) (by decide +kernel), List.mem_of_getElem? (i := 1276) (by decide +kernel), List.mem_of_getElem? (i := 1277) (by decide +kernel)⟩
theorem lw_p47 : lw_okq (⟨"StrokesHeardModel", "isLetter", "(I)Z"⟩, 32) := ⟨⟨by decide +kernel, by decide +kernel⟩, List.mem_of_getElem? (i := 920) (by decide +kernel), List.mem_of_getElem? (i := 1280) (by decide +kernel), List.mem_of_getElem? (i := 1281) (by decide +kernel)⟩
def lw_privs_3 : List (MethodName × Nat) := [(⟨"StrokesHeardModel", "totalAt", "(I)I"⟩, 32), (⟨"StrokesHeardModel", "drawn", "()I"⟩, 32), (⟨"StrokesHeardModel", "goesOnMany", "(I)V"⟩, 32), (⟨"StrokesHeardModel", "goesOn", "()V"⟩, 32), (⟨"StrokesHeardModel", "findAll", "()V"⟩, 32), (⟨"StrokesHeardModel", "doesFit", "(I)Z"⟩, 32), (⟨"StrokesHeardModel", "manyFit", "()I"⟩, 32), (⟨"StrokesHeardModel", "hoursFit", "()I"⟩, 32), (⟨"StrokesHeardModel", "isSure", "()Z"⟩, 32), (⟨"StrokesHeardModel", "findMore", "(II)V"⟩, 32), (⟨"StrokesHeardModel", "offBy", "(II)I"⟩, 32), (⟨"StrokesHeardModel", "laysBy", "()V"⟩, 32), (⟨"StrokesHeardModel", "laysBack", "()V"⟩, 32), (⟨"StrokesHeardModel", "parse", "()I"⟩, 32), (⟨"StrokesHeardModel", "nextToken", "()V"⟩, 32), (⟨"StrokesHeardModel", "isLetter", "(I)Z"⟩, 32)]
theorem lw_r3 : ∀ q ∈ lw_privs_3, lw_okq q := List.forall_mem_cons.mpr ⟨lw_p32, List.forall_mem_cons.mpr ⟨lw_p33, List.forall_mem_cons.mpr ⟨lw_p34, List.forall_mem_cons.mpr ⟨lw_p35, List.forall_mem_cons.mpr ⟨lw_p36, List.forall_mem_cons.mpr ⟨lw_p37, List.forall_mem_cons.mpr ⟨lw_p38, List.forall_mem_cons.mpr ⟨lw_p39, List.forall_mem_cons.mpr ⟨lw_p40, List.forall_mem_cons.mpr ⟨lw_p41, List.forall_mem_cons.mpr ⟨lw_p42, List.forall_mem_cons.mpr ⟨lw_p43, List.forall_mem_cons.mpr ⟨lw_p44, List.forall_mem_cons.mpr ⟨lw_p45, List.forall_mem_cons.mpr ⟨lw_p46, List.forall_mem_cons.mpr ⟨lw_p47, fun _ h => absurd h List.not_mem_nil⟩⟩⟩⟩⟩⟩⟩⟩⟩⟩⟩⟩⟩⟩⟩⟩
theorem lw_p48 : lw_okq (⟨"StrokesHeardModel", "isDigit", "(I)Z"⟩, 32) := ⟨⟨by decide +kernel, by decide +kernel⟩, List.mem_of_getElem? (i := 920) (by decide +kernel), List.mem_of_getElem? (i := 1286) (by decide +kernel), List.mem_of_getElem? (i := 1287) (by decide +kernel)⟩
theorem lw_p49 : lw_okq (⟨"StrokesHeardModel", "key", "()I"⟩, 32) := ⟨⟨by decide +kernel, by decide +kernel⟩, List.mem_of_getElem? (i := 920) (by decide +kernel), List.mem_of_getElem? (i := 1292) (by decide +kernel), List.mem_of_getElem? (i := 1293) (by decide +kernel)⟩
theorem lw_p50 : lw_okq (⟨"StrokesHeardModel", "isLong", "(IIIIII)Z"⟩, 32) := ⟨⟨by decide +kernel, by decide +kernel⟩, List.mem_of_getElem? (i := 920) (by decide +kernel), List.mem_of_getElem? (i := 1296) (by decide +kernel), List.mem_of_getElem? (i := 1297) (by decide +kernel)⟩
theorem lw_p51 : lw_okq (⟨"StrokesHeardModel", "isWordAt", "(IIII)Z"⟩, 32) := ⟨⟨by decide +kernel, by decide +kernel⟩, List.mem_of_getElem? (i := 920) (by decide +kernel), List.mem_of_getElem? (i := 1300) (by decide +kernel), List.mem_of_getElem? (i := 1301) (by decide +kernel)⟩
theorem lw_p52 : lw_okq (⟨"StrokesHeardModel", "either", "(I)Z"⟩, 32) := ⟨⟨by decide +kernel, by decide +kernel⟩, List.mem_of_getElem? (i := 920) (by decide +kernel), List.mem_of_getElem? (i := 1304) (by decide +kernel), List.mem_of_getElem? (i := 1305) (by decide +kernel)⟩
theorem lw_p53 : lw_okq (⟨"StrokesHeardModel", "both", "(I)Z"⟩, 32) := ⟨⟨by decide +kernel, by decide +kernel⟩, List.mem_of_getElem? (i := 920) (by decide +kernel), List.mem_of_getElem? (i := 1308) (by decide +kernel), List.mem_of_getElem? (i := 1309) (by decide +kernel)⟩
theorem lw_p54 : lw_okq (⟨"StrokesHeardModel", "test", "(I)Z"⟩, 32) := ⟨⟨by decide +kernel, by decide +kernel⟩, List.mem_of_getElem? (i := 920) (by decide +kernel), List.mem_of_getElem? (i := 1312) (by decide +kernel), List.mem_of_getElem? (i := 1313) (by decide +kernel)⟩
theorem lw_p55 : lw_okq (⟨"StrokesHeardModel", "sum", "(I)Z"⟩, 32) := ⟨⟨by decide +kernel, by decide +kernel⟩, List.mem_of_getElem? (i := 920) (by decide +kernel), List.mem_of_getElem? (i := 1316) (by decide +kernel), List.mem_of_getElem? (i := 1317) (by decide +kernel)⟩
theorem lw_p56 : lw_okq (⟨"StrokesHeardModel", "term", "(I)Z"⟩, 32) := ⟨⟨by decide +kernel, by decide +kernel⟩, List.mem_of_getElem? (i := 920) (by decide +kernel), List.mem_of_getElem? (i := 1320) (by decide +kernel), List.mem_of_getElem? (i := 1321) (by decide +kernel)⟩
theorem lw_p57 : lw_okq (⟨"StrokesHeardModel", "part0", "(I)Z"⟩, 32) := ⟨⟨by decide +kernel, by decide +kernel⟩, List.mem_of_getElem? (i := 920) (by decide +kernel), List.mem_of_getElem? (i := 1324) (by decide +kernel), List.mem_of_getElem? (i := 1325) (by decide +kernel)⟩
theorem lw_p58 : lw_okq (⟨"StrokesHeardModel", "step", "(II)V"⟩, 32) := ⟨⟨by decide +kernel, by decide +kernel⟩, List.mem_of_getElem? (i := 920) (by decide +kernel), List.mem_of_getElem? (i := 1328) (by decide +kernel), List.mem_of_getElem? (i := 1329) (by decide +kernel)⟩
theorem lw_p59 : lw_okq (⟨"StrokesHeardModel", "isSign", "(I)Z"⟩, 32) := ⟨⟨by decide +kernel, by decide +kernel⟩, List.mem_of_getElem? (i := 920) (by decide +kernel), List.mem_of_getElem? (i := 1335) (by decide +kernel), List.mem_of_getElem? (i := 1336) (by decide +kernel)⟩
theorem lw_p60 : lw_okq (⟨"StrokesHeardModel", "isText", "(I)Z"⟩, 32) := ⟨⟨by decide +kernel, by decide +kernel⟩, List.mem_of_getElem? (i := 920) (by decide +kernel), List.mem_of_getElem? (i := 1343) (by decide +kernel), List.mem_of_getElem? (i := 1344) (by decide +kernel)⟩
theorem lw_p61 : lw_okq (⟨"StrokesHeardModel", "setAside", "([I[I)V"⟩, 32) := ⟨⟨by decide +kernel, by decide +kernel⟩, List.mem_of_getElem? (i := 920) (by decide +kernel), List.mem_of_getElem? (i := 1412) (by decide +kernel), List.mem_of_getElem? (i := 1413) (by decide +kernel)⟩
def lw_privs_4 : List (MethodName × Nat) := [(⟨"StrokesHeardModel", "isDigit", "(I)Z"⟩, 32), (⟨"StrokesHeardModel", "key", "()I"⟩, 32), (⟨"StrokesHeardModel", "isLong", "(IIIIII)Z"⟩, 32), (⟨"StrokesHeardModel", "isWordAt", "(IIII)Z"⟩, 32), (⟨"StrokesHeardModel", "either", "(I)Z"⟩, 32), (⟨"StrokesHeardModel", "both", "(I)Z"⟩, 32), (⟨"StrokesHeardModel", "test", "(I)Z"⟩, 32), (⟨"StrokesHeardModel", "sum", "(I)Z"⟩, 32), (⟨"StrokesHeardModel", "term", "(I)Z"⟩, 32), (⟨"StrokesHeardModel", "part0", "(I)Z"⟩, 32), (⟨"StrokesHeardModel", "step", "(II)V"⟩, 32), (⟨"StrokesHeardModel", "isSign", "(I)Z"⟩, 32), (⟨"StrokesHeardModel", "isText", "(I)Z"⟩, 32), (⟨"StrokesHeardModel", "setAside", "([I[I)V"⟩, 32)]
theorem lw_r4 : ∀ q ∈ lw_privs_4, lw_okq q := List.forall_mem_cons.mpr ⟨lw_p48, List.forall_mem_cons.mpr ⟨lw_p49, List.forall_mem_cons.mpr ⟨lw_p50, List.forall_mem_cons.mpr ⟨lw_p51, List.forall_mem_cons.mpr ⟨lw_p52, List.forall_mem_cons.mpr ⟨lw_p53, List.forall_mem_cons.mpr ⟨lw_p54, List.forall_mem_cons.mpr ⟨lw_p55, List.forall_mem_cons.mpr ⟨lw_p56, List.forall_mem_cons.mpr ⟨lw_p57, List.forall_mem_cons.mpr ⟨lw_p58, List.forall_mem_cons.mpr ⟨lw_p59, List.forall_mem_cons.mpr ⟨lw_p60, List.forall_mem_cons.mpr ⟨lw_p61, fun _ h => absurd h List.not_mem_nil⟩⟩⟩⟩⟩⟩⟩⟩⟩⟩⟩⟩⟩⟩
def lw_privs : List (MethodName × Nat) := lw_privs_1 ++ (lw_privs_2 ++ (lw_privs_3 ++ (lw_privs_4)))
def lw_tbl : List Cond := k2_sels lw_privs ++ tables_1
theorem lw_privs_ok : ∀ q ∈ lw_privs, lw_okq q := by
  show ∀ q ∈ lw_privs_1 ++ (lw_privs_2 ++ (lw_privs_3 ++ (lw_privs_4))), lw_okq q
  exact List.forall_mem_append.mpr ⟨lw_r1, List.forall_mem_append.mpr ⟨lw_r2, List.forall_mem_append.mpr ⟨lw_r3, lw_r4⟩⟩⟩
end
section
def RX0 : String := "StrokesHeard$Clock"
def TX0 : u_T := fun k => match k with
  | 0 => ("StrokesHeard$Clock", "kind", "I", false)
  | 1 => ("StrokesHeard$Clock", "off", "I", false)
  | _ => ("StrokesHeard$Clock", "tone", "I", false)
def tyX0 : Nat → FieldType := fun k => match k with
  | 0 => .int
  | 1 => .int
  | _ => .int
theorem nmX0 : ∀ a, a < 3 → ∀ b, b < 3 → a ≠ b → (TX0 a).2.1 ≠ (TX0 b).2.1 := by decide +kernel
theorem tyX0_ok : ∀ k, k < 3 → parseFieldDescriptor (TX0 k).2.2.1 = some (tyX0 k) := by decide +kernel
abbrev cX0_init : ByteArray := prog_2_method_1_code
def yX0_init : MethodName := ⟨RX0, "<init>", "()V"⟩
abbrev cX0_take : ByteArray := prog_2_method_2_code
def yX0_take : MethodName := ⟨RX0, "take", "(LStrokesHeard$Clock;)V"⟩
abbrev cX0_worth : ByteArray := prog_2_method_3_code
def yX0_worth : MethodName := ⟨RX0, "worth", "()I"⟩
def RX1 : String := "StrokesHeard$Guess"
def TX1 : u_T := fun k => match k with
  | 0 => ("StrokesHeard$Guess", "totals", "[I", true)
  | 1 => ("StrokesHeard$Guess", "allowed", "[I", true)
  | 2 => ("StrokesHeard$Guess", "noteCount", "I", false)
  | 3 => ("StrokesHeard$Guess", "found", "I", false)
  | 4 => ("StrokesHeard$Guess", "hours", "I", false)
  | _ => ("StrokesHeard$Guess", "first", "I", false)
def tyX1 : Nat → FieldType := fun k => match k with
  | 0 => .array .int
  | 1 => .array .int
  | 2 => .int
  | 3 => .int
  | 4 => .int
  | _ => .int
theorem nmX1 : ∀ a, a < 6 → ∀ b, b < 6 → a ≠ b → (TX1 a).2.1 ≠ (TX1 b).2.1 := by decide +kernel
theorem tyX1_ok : ∀ k, k < 6 → parseFieldDescriptor (TX1 k).2.2.1 = some (tyX1 k) := by decide +kernel
abbrev cX1_init : ByteArray := prog_3_method_1_code
def yX1_init : MethodName := ⟨RX1, "<init>", "()V"⟩
abbrev cX1_useClocks : ByteArray := prog_3_method_2_code
def yX1_useClocks : MethodName := ⟨RX1, "useClocks", "(LStrokesHeard$Night;)V"⟩
abbrev cX1_addStrokes : ByteArray := prog_3_method_3_code
def yX1_addStrokes : MethodName := ⟨RX1, "addStrokes", "(LStrokesHeard$Night;LStrokesHeard$Clock;II)V"⟩
abbrev cX1_addAt : ByteArray := prog_3_method_4_code
def yX1_addAt : MethodName := ⟨RX1, "addAt", "(II)V"⟩
abbrev cX1_useNotes : ByteArray := prog_3_method_5_code
def yX1_useNotes : MethodName := ⟨RX1, "useNotes", "(LStrokesHeard$Night;)V"⟩
abbrev cX1_findTimes : ByteArray := prog_3_method_6_code
def yX1_findTimes : MethodName := ⟨RX1, "findTimes", "()V"⟩
abbrev cX1_isSure : ByteArray := prog_3_method_7_code
def yX1_isSure : MethodName := ⟨RX1, "isSure", "()Z"⟩
abbrev cX1_difference : ByteArray := prog_3_method_8_code
def yX1_difference : MethodName := ⟨RX1, "difference", "(LStrokesHeard$Sheet;I)I"⟩
def RX2 : String := "StrokesHeard$Night"
def TX2 : u_T := fun k => match k with
  | 0 => ("StrokesHeard$Night", "clocks", "[LStrokesHeard$Clock;", true)
  | 1 => ("StrokesHeard$Night", "clockCount", "I", false)
  | 2 => ("StrokesHeard$Night", "ear", "I", false)
  | 3 => ("StrokesHeard$Night", "noise", "I", false)
  | 4 => ("StrokesHeard$Night", "heard", "I", false)
  | 5 => ("StrokesHeard$Night", "missed", "I", false)
  | 6 => ("StrokesHeard$Night", "mistaken", "I", false)
  | 7 => ("StrokesHeard$Night", "minute", "I", false)
  | 8 => ("StrokesHeard$Night", "z", "I", false)
  | 9 => ("StrokesHeard$Night", "notes", "[I", true)
  | 10 => ("StrokesHeard$Night", "noteCount", "I", false)
  | 11 => ("StrokesHeard$Night", "texts", "[LStrokesHeard$Text;", true)
  | 12 => ("StrokesHeard$Night", "textCount", "I", false)
  | _ => ("StrokesHeard$Night", "lawNumbers", "[I", true)
def tyX2 : Nat → FieldType := fun k => match k with
  | 0 => .array (.object "StrokesHeard$Clock")
  | 1 => .int
  | 2 => .int
  | 3 => .int
  | 4 => .int
  | 5 => .int
  | 6 => .int
  | 7 => .int
  | 8 => .int
  | 9 => .array .int
  | 10 => .int
  | 11 => .array (.object "StrokesHeard$Text")
  | 12 => .int
  | _ => .array .int
theorem nmX2 : ∀ a, a < 14 → ∀ b, b < 14 → a ≠ b → (TX2 a).2.1 ≠ (TX2 b).2.1 := by decide +kernel
theorem tyX2_ok : ∀ k, k < 14 → parseFieldDescriptor (TX2 k).2.2.1 = some (tyX2 k) := by decide +kernel
abbrev cX2_init : ByteArray := prog_4_method_1_code
def yX2_init : MethodName := ⟨RX2, "<init>", "()V"⟩
abbrev cX2_take : ByteArray := prog_4_method_2_code
def yX2_take : MethodName := ⟨RX2, "take", "(LStrokesHeard$Night;)V"⟩
abbrev cX2_hasClock : ByteArray := prog_4_method_3_code
def yX2_hasClock : MethodName := ⟨RX2, "hasClock", "(I)Z"⟩
abbrev cX2_addClock : ByteArray := prog_4_method_4_code
def yX2_addClock : MethodName := ⟨RX2, "addClock", "(III)V"⟩
abbrev cX2_draw : ByteArray := prog_4_method_5_code
def yX2_draw : MethodName := ⟨RX2, "draw", "()I"⟩
abbrev cX2_timeNow : ByteArray := prog_4_method_6_code
def yX2_timeNow : MethodName := ⟨RX2, "timeNow", "()I"⟩
abbrev cX2_bedCount : ByteArray := prog_4_method_7_code
def yX2_bedCount : MethodName := ⟨RX2, "bedCount", "(I)I"⟩
abbrev cX2_textAt : ByteArray := prog_4_method_8_code
def yX2_textAt : MethodName := ⟨RX2, "textAt", "(I)LStrokesHeard$Text;"⟩
abbrev cX2_law : ByteArray := prog_4_method_9_code
def yX2_law : MethodName := ⟨RX2, "law", "(I)LStrokesHeard$Text;"⟩
abbrev cX2_addText : ByteArray := prog_4_method_10_code
def yX2_addText : MethodName := ⟨RX2, "addText", "(LStrokesHeard$Text;)V"⟩
abbrev cX2_againMinute : ByteArray := prog_4_method_11_code
def yX2_againMinute : MethodName := ⟨RX2, "againMinute", "(LStrokesHeard$Clock;II)I"⟩
abbrev cX2_strokesAt : ByteArray := prog_4_method_12_code
def yX2_strokesAt : MethodName := ⟨RX2, "strokesAt", "(LStrokesHeard$Clock;I)I"⟩
abbrev cX2_strokesOfAllTimes : ByteArray := prog_4_method_13_code
def yX2_strokesOfAllTimes : MethodName := ⟨RX2, "strokesOfAllTimes", "(LStrokesHeard$Clock;)I"⟩
abbrev cX2_totalAt : ByteArray := prog_4_method_14_code
def yX2_totalAt : MethodName := ⟨RX2, "totalAt", "(I)I"⟩
abbrev cX2_passMinutes : ByteArray := prog_4_method_15_code
def yX2_passMinutes : MethodName := ⟨RX2, "passMinutes", "(I)V"⟩
abbrev cX2_hearMinute : ByteArray := prog_4_method_16_code
def yX2_hearMinute : MethodName := ⟨RX2, "hearMinute", "(I)V"⟩
abbrev cX2_allows : ByteArray := prog_4_method_17_code
def yX2_allows : MethodName := ⟨RX2, "allows", "(II)Z"⟩
def RX3 : String := "StrokesHeard$Sheet"
def TX3 : u_T := fun k => match k with
  | 0 => ("StrokesHeard$Sheet", "sort", "I", false)
  | 1 => ("StrokesHeard$Sheet", "size", "I", false)
  | _ => ("StrokesHeard$Sheet", "places", "[I", true)
def tyX3 : Nat → FieldType := fun k => match k with
  | 0 => .int
  | 1 => .int
  | _ => .array .int
theorem nmX3 : ∀ a, a < 3 → ∀ b, b < 3 → a ≠ b → (TX3 a).2.1 ≠ (TX3 b).2.1 := by decide +kernel
theorem tyX3_ok : ∀ k, k < 3 → parseFieldDescriptor (TX3 k).2.2.1 = some (tyX3 k) := by decide +kernel
abbrev cX3_init : ByteArray := prog_5_method_1_code
def yX3_init : MethodName := ⟨RX3, "<init>", "()V"⟩
abbrev cX3_become : ByteArray := prog_5_method_2_code
def yX3_become : MethodName := ⟨RX3, "become", "(II)V"⟩
abbrev cX3_take : ByteArray := prog_5_method_3_code
def yX3_take : MethodName := ⟨RX3, "take", "(LStrokesHeard$Sheet;)V"⟩
abbrev cX3_isNumber : ByteArray := prog_5_method_4_code
def yX3_isNumber : MethodName := ⟨RX3, "isNumber", "(I)Z"⟩
abbrev cX3_hasRun : ByteArray := prog_5_method_5_code
def yX3_hasRun : MethodName := ⟨RX3, "hasRun", "(II)Z"⟩
def RX4 : String := "StrokesHeard$Slot"
def TX4 : u_T := fun k => match k with
  | 0 => ("StrokesHeard$Slot", "holds", "I", false)
  | 1 => ("StrokesHeard$Slot", "clock", "LStrokesHeard$Clock;", true)
  | 2 => ("StrokesHeard$Slot", "sheet", "LStrokesHeard$Sheet;", true)
  | _ => ("StrokesHeard$Slot", "number", "I", false)
def tyX4 : Nat → FieldType := fun k => match k with
  | 0 => .int
  | 1 => .object "StrokesHeard$Clock"
  | 2 => .object "StrokesHeard$Sheet"
  | _ => .int
theorem nmX4 : ∀ a, a < 4 → ∀ b, b < 4 → a ≠ b → (TX4 a).2.1 ≠ (TX4 b).2.1 := by decide +kernel
theorem tyX4_ok : ∀ k, k < 4 → parseFieldDescriptor (TX4 k).2.2.1 = some (tyX4 k) := by decide +kernel
abbrev cX4_init : ByteArray := prog_6_method_1_code
def yX4_init : MethodName := ⟨RX4, "<init>", "()V"⟩
def RX5 : String := "StrokesHeard$Text"
def TX5 : u_T := fun k => match k with
  | 0 => ("StrokesHeard$Text", "key", "I", true)
  | 1 => ("StrokesHeard$Text", "pieces", "I", true)
  | 2 => ("StrokesHeard$Text", "steps", "[I", true)
  | _ => ("StrokesHeard$Text", "stack", "[I", true)
def tyX5 : Nat → FieldType := fun k => match k with
  | 0 => .int
  | 1 => .int
  | 2 => .array .int
  | _ => .array .int
theorem nmX5 : ∀ a, a < 4 → ∀ b, b < 4 → a ≠ b → (TX5 a).2.1 ≠ (TX5 b).2.1 := by decide +kernel
theorem tyX5_ok : ∀ k, k < 4 → parseFieldDescriptor (TX5 k).2.2.1 = some (tyX5 k) := by decide +kernel
abbrev cX5_init : ByteArray := prog_7_method_1_code
def yX5_init : MethodName := ⟨RX5, "<init>", "(II[I)V"⟩
abbrev cX5_value : ByteArray := prog_7_method_2_code
def yX5_value : MethodName := ⟨RX5, "value", "(III)I"⟩
abbrev cX5_joined : ByteArray := prog_7_method_3_code
def yX5_joined : MethodName := ⟨RX5, "joined", "(III)I"⟩
def RX6 : String := "StrokesHeard$TextReader"
def TX6 : u_T := fun k => match k with
  | 0 => ("StrokesHeard$TextReader", "bytes", "[B", false)
  | 1 => ("StrokesHeard$TextReader", "length", "I", false)
  | 2 => ("StrokesHeard$TextReader", "sort", "I", false)
  | 3 => ("StrokesHeard$TextReader", "start", "I", false)
  | 4 => ("StrokesHeard$TextReader", "end", "I", false)
  | 5 => ("StrokesHeard$TextReader", "key", "I", false)
  | 6 => ("StrokesHeard$TextReader", "pieces", "I", false)
  | 7 => ("StrokesHeard$TextReader", "steps", "[I", true)
  | _ => ("StrokesHeard$TextReader", "stepCount", "I", false)
def tyX6 : Nat → FieldType := fun k => match k with
  | 0 => .array .byte
  | 1 => .int
  | 2 => .int
  | 3 => .int
  | 4 => .int
  | 5 => .int
  | 6 => .int
  | 7 => .array .int
  | _ => .int
theorem nmX6 : ∀ a, a < 9 → ∀ b, b < 9 → a ≠ b → (TX6 a).2.1 ≠ (TX6 b).2.1 := by decide +kernel
theorem tyX6_ok : ∀ k, k < 9 → parseFieldDescriptor (TX6 k).2.2.1 = some (tyX6 k) := by decide +kernel
abbrev cX6_init : ByteArray := prog_8_method_1_code
def yX6_init : MethodName := ⟨RX6, "<init>", "()V"⟩
abbrev cX6_readText : ByteArray := prog_8_method_2_code
def yX6_readText : MethodName := ⟨RX6, "readText", "([BI)Z"⟩
abbrev cX6_newText : ByteArray := prog_8_method_3_code
def yX6_newText : MethodName := ⟨RX6, "newText", "()LStrokesHeard$Text;"⟩
abbrev cX6_advance : ByteArray := prog_8_method_4_code
def yX6_advance : MethodName := ⟨RX6, "advance", "()V"⟩
abbrev cX6_isLetter : ByteArray := prog_8_method_5_code
def yX6_isLetter : MethodName := ⟨RX6, "isLetter", "(B)Z"⟩
abbrev cX6_isDigit : ByteArray := prog_8_method_6_code
def yX6_isDigit : MethodName := ⟨RX6, "isDigit", "(B)Z"⟩
abbrev cX6_isSign : ByteArray := prog_8_method_7_code
def yX6_isSign : MethodName := ⟨RX6, "isSign", "(C)Z"⟩
abbrev cX6_signAmong : ByteArray := prog_8_method_8_code
def yX6_signAmong : MethodName := ⟨RX6, "signAmong", "(Ljava/lang/String;)I"⟩
abbrev cX6_isWord : ByteArray := prog_8_method_9_code
def yX6_isWord : MethodName := ⟨RX6, "isWord", "(Ljava/lang/String;)Z"⟩
abbrev cX6_readKey : ByteArray := prog_8_method_10_code
def yX6_readKey : MethodName := ⟨RX6, "readKey", "()Z"⟩
abbrev cX6_addStep : ByteArray := prog_8_method_11_code
def yX6_addStep : MethodName := ⟨RX6, "addStep", "(I)V"⟩
abbrev cX6_readOr : ByteArray := prog_8_method_12_code
def yX6_readOr : MethodName := ⟨RX6, "readOr", "(II)Z"⟩
abbrev cX6_readAnd : ByteArray := prog_8_method_13_code
def yX6_readAnd : MethodName := ⟨RX6, "readAnd", "(II)Z"⟩
abbrev cX6_readTest : ByteArray := prog_8_method_14_code
def yX6_readTest : MethodName := ⟨RX6, "readTest", "(II)Z"⟩
abbrev cX6_readSum : ByteArray := prog_8_method_15_code
def yX6_readSum : MethodName := ⟨RX6, "readSum", "(II)Z"⟩
abbrev cX6_readTerm : ByteArray := prog_8_method_16_code
def yX6_readTerm : MethodName := ⟨RX6, "readTerm", "(II)Z"⟩
abbrev cX6_readPiece : ByteArray := prog_8_method_17_code
def yX6_readPiece : MethodName := ⟨RX6, "readPiece", "(II)Z"⟩
abbrev cX6_readNumber : ByteArray := prog_8_method_18_code
def yX6_readNumber : MethodName := ⟨RX6, "readNumber", "()Z"⟩
abbrev cX6_readName : ByteArray := prog_8_method_19_code
def yX6_readName : MethodName := ⟨RX6, "readName", "()Z"⟩
def RX7 : String := "StrokesHeard$Windows"
def TX7 : u_T := fun k => match k with
  | 0 => ("StrokesHeard$Windows", "group", "[I", true)
  | 1 => ("StrokesHeard$Windows", "newestPart", "[I", true)
  | 2 => ("StrokesHeard$Windows", "olderPart", "[I", true)
  | 3 => ("StrokesHeard$Windows", "partTotal", "[I", true)
  | 4 => ("StrokesHeard$Windows", "partHour", "[I", true)
  | _ => ("StrokesHeard$Windows", "partCount", "I", false)
def tyX7 : Nat → FieldType := fun k => match k with
  | 0 => .array .int
  | 1 => .array .int
  | 2 => .array .int
  | 3 => .array .int
  | 4 => .array .int
  | _ => .int
theorem nmX7 : ∀ a, a < 6 → ∀ b, b < 6 → a ≠ b → (TX7 a).2.1 ≠ (TX7 b).2.1 := by decide +kernel
theorem tyX7_ok : ∀ k, k < 6 → parseFieldDescriptor (TX7 k).2.2.1 = some (tyX7 k) := by decide +kernel
abbrev cX7_init : ByteArray := prog_9_method_1_code
def yX7_init : MethodName := ⟨RX7, "<init>", "()V"⟩
abbrev cX7_shortest : ByteArray := prog_9_method_2_code
def yX7_shortest : MethodName := ⟨RX7, "shortest", "([I)I"⟩
abbrev cX7_splitLeavesDoubt : ByteArray := prog_9_method_3_code
def yX7_splitLeavesDoubt : MethodName := ⟨RX7, "splitLeavesDoubt", "([II)Z"⟩
abbrev cX7_partOf : ByteArray := prog_9_method_4_code
def yX7_partOf : MethodName := ⟨RX7, "partOf", "(III)I"⟩
def RX8 : String := "StrokesHeard"
def TX8 : u_T := fun k => match k with
  | 0 => ("StrokesHeard", "now", "LStrokesHeard$Night;", true)
  | 1 => ("StrokesHeard", "image", "LStrokesHeard$Night;", true)
  | 2 => ("StrokesHeard", "thought", "LStrokesHeard$Night;", true)
  | 3 => ("StrokesHeard", "kept", "Z", false)
  | 4 => ("StrokesHeard", "guess", "LStrokesHeard$Guess;", true)
  | 5 => ("StrokesHeard", "windows", "LStrokesHeard$Windows;", true)
  | 6 => ("StrokesHeard", "reader", "LStrokesHeard$TextReader;", true)
  | 7 => ("StrokesHeard", "tape", "[B", true)
  | 8 => ("StrokesHeard", "tapeCount", "I", false)
  | 9 => ("StrokesHeard", "waiting", "[I", true)
  | 10 => ("StrokesHeard", "waitingCount", "I", false)
  | 11 => ("StrokesHeard", "sheets", "[LStrokesHeard$Sheet;", true)
  | _ => ("StrokesHeard", "slots", "[LStrokesHeard$Slot;", true)
def tyX8 : Nat → FieldType := fun k => match k with
  | 0 => .object "StrokesHeard$Night"
  | 1 => .object "StrokesHeard$Night"
  | 2 => .object "StrokesHeard$Night"
  | 3 => .boolean
  | 4 => .object "StrokesHeard$Guess"
  | 5 => .object "StrokesHeard$Windows"
  | 6 => .object "StrokesHeard$TextReader"
  | 7 => .array .byte
  | 8 => .int
  | 9 => .array .int
  | 10 => .int
  | 11 => .array (.object "StrokesHeard$Sheet")
  | _ => .array (.object "StrokesHeard$Slot")
theorem nmX8 : ∀ a, a < 13 → ∀ b, b < 13 → a ≠ b → (TX8 a).2.1 ≠ (TX8 b).2.1 := by decide +kernel
theorem tyX8_ok : ∀ k, k < 13 → parseFieldDescriptor (TX8 k).2.2.1 = some (tyX8 k) := by decide +kernel
abbrev cX8_init : ByteArray := prog_1_method_1_code
def yX8_init : MethodName := ⟨RX8, "<init>", "()V"⟩
abbrev cX8_clock : ByteArray := prog_1_method_2_code
def yX8_clock : MethodName := ⟨RX8, "clock", "(III)I"⟩
abbrev cX8_told : ByteArray := prog_1_method_3_code
def yX8_told : MethodName := ⟨RX8, "told", "(II)I"⟩
abbrev cX8_as : ByteArray := prog_1_method_4_code
def yX8_as : MethodName := ⟨RX8, "as", "(II)I"⟩
abbrev cX8_turns : ByteArray := prog_1_method_5_code
def yX8_turns : MethodName := ⟨RX8, "turns", "(II)I"⟩
abbrev cX8_set : ByteArray := prog_1_method_6_code
def yX8_set : MethodName := ⟨RX8, "set", "(III)I"⟩
abbrev cX8_strokes : ByteArray := prog_1_method_7_code
def yX8_strokes : MethodName := ⟨RX8, "strokes", "(II)I"⟩
abbrev cX8_total : ByteArray := prog_1_method_8_code
def yX8_total : MethodName := ⟨RX8, "total", "(I)I"⟩
abbrev cX8_ear : ByteArray := prog_1_method_9_code
def yX8_ear : MethodName := ⟨RX8, "ear", "(II)I"⟩
abbrev cX8_deal : ByteArray := prog_1_method_10_code
def yX8_deal : MethodName := ⟨RX8, "deal", "(I)I"⟩
abbrev cX8_seed : ByteArray := prog_1_method_11_code
def yX8_seed : MethodName := ⟨RX8, "seed", "(I)I"⟩
abbrev cX8_minutes : ByteArray := prog_1_method_12_code
def yX8_minutes : MethodName := ⟨RX8, "minutes", "(I)I"⟩
abbrev cX8_bed : ByteArray := prog_1_method_13_code
def yX8_bed : MethodName := ⟨RX8, "bed", "(I)I"⟩
abbrev cX8_note : ByteArray := prog_1_method_14_code
def yX8_note : MethodName := ⟨RX8, "note", "(I)I"⟩
abbrev cX8_fits : ByteArray := prog_1_method_15_code
def yX8_fits : MethodName := ⟨RX8, "fits", "(I)I"⟩
abbrev cX8_may : ByteArray := prog_1_method_16_code
def yX8_may : MethodName := ⟨RX8, "may", "(I)I"⟩
abbrev cX8_next : ByteArray := prog_1_method_17_code
def yX8_next : MethodName := ⟨RX8, "next", "()I"⟩
abbrev cX8_parts : ByteArray := prog_1_method_18_code
def yX8_parts : MethodName := ⟨RX8, "parts", "(II)I"⟩
abbrev cX8_astray : ByteArray := prog_1_method_19_code
def yX8_astray : MethodName := ⟨RX8, "astray", "(I)I"⟩
abbrev cX8_right : ByteArray := prog_1_method_20_code
def yX8_right : MethodName := ⟨RX8, "right", "(II)I"⟩
abbrev cX8_telling : ByteArray := prog_1_method_21_code
def yX8_telling : MethodName := ⟨RX8, "telling", "()I"⟩
abbrev cX8_like : ByteArray := prog_1_method_22_code
def yX8_like : MethodName := ⟨RX8, "like", "(II)I"⟩
abbrev cX8_behind : ByteArray := prog_1_method_23_code
def yX8_behind : MethodName := ⟨RX8, "behind", "(II)I"⟩
abbrev cX8_listen : ByteArray := prog_1_method_24_code
def yX8_listen : MethodName := ⟨RX8, "listen", "()I"⟩
abbrev cX8_fee : ByteArray := prog_1_method_25_code
def yX8_fee : MethodName := ⟨RX8, "fee", "()I"⟩
abbrev cX8_fine : ByteArray := prog_1_method_26_code
def yX8_fine : MethodName := ⟨RX8, "fine", "(I)I"⟩
abbrev cX8_feed : ByteArray := prog_1_method_27_code
def yX8_feed : MethodName := ⟨RX8, "feed", "(III)I"⟩
abbrev cX8_trim : ByteArray := prog_1_method_28_code
def yX8_trim : MethodName := ⟨RX8, "trim", "(I)I"⟩
abbrev cX8_text : ByteArray := prog_1_method_29_code
def yX8_text : MethodName := ⟨RX8, "text", "()I"⟩
abbrev cX8_textTold : ByteArray := prog_1_method_30_code
def yX8_textTold : MethodName := ⟨RX8, "textTold", "(II)I"⟩
abbrev cX8_why : ByteArray := prog_1_method_31_code
def yX8_why : MethodName := ⟨RX8, "why", "(I)I"⟩
abbrev cX8_sheet : ByteArray := prog_1_method_32_code
def yX8_sheet : MethodName := ⟨RX8, "sheet", "(III)I"⟩
abbrev cX8_mark : ByteArray := prog_1_method_33_code
def yX8_mark : MethodName := ⟨RX8, "mark", "(III)I"⟩
abbrev cX8_pour : ByteArray := prog_1_method_34_code
def yX8_pour : MethodName := ⟨RX8, "pour", "(I)I"⟩
abbrev cX8_reads : ByteArray := prog_1_method_35_code
def yX8_reads : MethodName := ⟨RX8, "reads", "(I)I"⟩
abbrev cX8_copy : ByteArray := prog_1_method_36_code
def yX8_copy : MethodName := ⟨RX8, "copy", "(IIIII)I"⟩
abbrev cX8_lay : ByteArray := prog_1_method_37_code
def yX8_lay : MethodName := ⟨RX8, "lay", "(III)I"⟩
abbrev cX8_ask : ByteArray := prog_1_method_38_code
def yX8_ask : MethodName := ⟨RX8, "ask", "(II)I"⟩
abbrev cX8_item : ByteArray := prog_1_method_39_code
def yX8_item : MethodName := ⟨RX8, "item", "(II)I"⟩
abbrev cX8_rest : ByteArray := prog_1_method_40_code
def yX8_rest : MethodName := ⟨RX8, "rest", "(II)I"⟩
abbrev cX8_tell : ByteArray := prog_1_method_41_code
def yX8_tell : MethodName := ⟨RX8, "tell", "(I)I"⟩
abbrev cX8_check : ByteArray := prog_1_method_42_code
def yX8_check : MethodName := ⟨RX8, "check", "(I)I"⟩
abbrev cX8_keep : ByteArray := prog_1_method_43_code
def yX8_keep : MethodName := ⟨RX8, "keep", "()I"⟩
abbrev cX8_back : ByteArray := prog_1_method_44_code
def yX8_back : MethodName := ⟨RX8, "back", "()I"⟩
abbrev cX8_count : ByteArray := prog_1_method_45_code
def yX8_count : MethodName := ⟨RX8, "count", "(I)I"⟩
abbrev cX8_putBytes : ByteArray := prog_1_method_46_code
def yX8_putBytes : MethodName := ⟨RX8, "putBytes", "(I)V"⟩
abbrev cX8_within : ByteArray := prog_1_method_47_code
def yX8_within : MethodName := ⟨RX8, "within", "(II)Z"⟩
abbrev cX8_held : ByteArray := prog_1_method_48_code
def yX8_held : MethodName := ⟨RX8, "held", "(III)I"⟩
abbrev cX8_isUnder : ByteArray := prog_1_method_49_code
def yX8_isUnder : MethodName := ⟨RX8, "isUnder", "(II)Z"⟩
abbrev cX8_fullStrokes : ByteArray := prog_1_method_50_code
def yX8_fullStrokes : MethodName := ⟨RX8, "fullStrokes", "(II)I"⟩
abbrev cX8_strokesWithin : ByteArray := prog_1_method_51_code
def yX8_strokesWithin : MethodName := ⟨RX8, "strokesWithin", "(IIII)I"⟩
def RX9 : String := "StrokesHeardModel"
def TX9 : u_T := fun k => match k with
  | 0 => ("StrokesHeardModel", "s", "[I", true)
  | 1 => ("StrokesHeardModel", "image", "[I", true)
  | 2 => ("StrokesHeardModel", "aside", "[I", true)
  | 3 => ("StrokesHeardModel", "hasImage", "Z", false)
  | 4 => ("StrokesHeardModel", "tSort", "[I", true)
  | 5 => ("StrokesHeardModel", "tSize", "[I", true)
  | 6 => ("StrokesHeardModel", "tNumber", "[I", true)
  | 7 => ("StrokesHeardModel", "held", "[I", true)
  | 8 => ("StrokesHeardModel", "heldNumber", "[I", true)
  | 9 => ("StrokesHeardModel", "heldWorth", "[I", true)
  | 10 => ("StrokesHeardModel", "heldSize", "[I", true)
  | 11 => ("StrokesHeardModel", "heldRow", "[I", true)
  | 12 => ("StrokesHeardModel", "all", "[I", true)
  | 13 => ("StrokesHeardModel", "close", "[I", true)
  | 14 => ("StrokesHeardModel", "tape", "[I", true)
  | 15 => ("StrokesHeardModel", "taped", "I", false)
  | 16 => ("StrokesHeardModel", "begin", "I", false)
  | 17 => ("StrokesHeardModel", "behind", "I", false)
  | 18 => ("StrokesHeardModel", "token", "I", false)
  | 19 => ("StrokesHeardModel", "number", "I", false)
  | 20 => ("StrokesHeardModel", "letter", "I", false)
  | 21 => ("StrokesHeardModel", "deep", "I", false)
  | 22 => ("StrokesHeardModel", "turned", "I", false)
  | 23 => ("StrokesHeardModel", "laid", "I", false)
  | 24 => ("StrokesHeardModel", "laidAt", "I", false)
  | 25 => ("StrokesHeardModel", "said", "I", false)
  | 26 => ("StrokesHeardModel", "named", "[I", true)
  | 27 => ("StrokesHeardModel", "pile", "[I", true)
  | 28 => ("StrokesHeardModel", "carried", "[I", true)
  | 29 => ("StrokesHeardModel", "waits", "[I", true)
  | 30 => ("StrokesHeardModel", "waiting", "I", false)
  | _ => ("StrokesHeardModel", "rowDue", "[I", true)
def tyX9 : Nat → FieldType := fun k => match k with
  | 0 => .array .int
  | 1 => .array .int
  | 2 => .array .int
  | 3 => .boolean
  | 4 => .array .int
  | 5 => .array .int
  | 6 => .array .int
  | 7 => .array .int
  | 8 => .array .int
  | 9 => .array .int
  | 10 => .array .int
  | 11 => .array .int
  | 12 => .array .int
  | 13 => .array .int
  | 14 => .array .int
  | 15 => .int
  | 16 => .int
  | 17 => .int
  | 18 => .int
  | 19 => .int
  | 20 => .int
  | 21 => .int
  | 22 => .int
  | 23 => .int
  | 24 => .int
  | 25 => .int
  | 26 => .array .int
  | 27 => .array .int
  | 28 => .array .int
  | 29 => .array .int
  | 30 => .int
  | _ => .array .int
theorem nmX9 : ∀ a, a < 32 → ∀ b, b < 32 → a ≠ b → (TX9 a).2.1 ≠ (TX9 b).2.1 := by decide +kernel
theorem tyX9_ok : ∀ k, k < 32 → parseFieldDescriptor (TX9 k).2.2.1 = some (tyX9 k) := by decide +kernel
abbrev cX9_init : ByteArray := prog_11_method_1_code
def yX9_init : MethodName := ⟨RX9, "<init>", "()V"⟩
abbrev cX9_isIn : ByteArray := prog_11_method_2_code
def yX9_isIn : MethodName := ⟨RX9, "isIn", "(JJJ)Z"⟩
abbrev cX9_orNone : ByteArray := prog_11_method_3_code
def yX9_orNone : MethodName := ⟨RX9, "orNone", "(I)I"⟩
abbrev cX9_within : ByteArray := prog_11_method_4_code
def yX9_within : MethodName := ⟨RX9, "within", "(II)I"⟩
abbrev cX9_off : ByteArray := prog_11_method_5_code
def yX9_off : MethodName := ⟨RX9, "off", "(II)I"⟩
abbrev cX9_becomes : ByteArray := prog_11_method_6_code
def yX9_becomes : MethodName := ⟨RX9, "becomes", "(II)I"⟩
abbrev cX9_textAt : ByteArray := prog_11_method_7_code
def yX9_textAt : MethodName := ⟨RX9, "textAt", "(I)I"⟩
abbrev cX9_of : ByteArray := prog_11_method_8_code
def yX9_of : MethodName := ⟨RX9, "of", "(II)I"⟩
abbrev cX9_sets : ByteArray := prog_11_method_9_code
def yX9_sets : MethodName := ⟨RX9, "sets", "(III)V"⟩
abbrev cX9_isClock : ByteArray := prog_11_method_10_code
def yX9_isClock : MethodName := ⟨RX9, "isClock", "(I)Z"⟩
abbrev cX9_isText : ByteArray := prog_11_method_11_code
def yX9_isText : MethodName := ⟨RX9, "isText", "(I)Z"⟩
abbrev cX9_drawn : ByteArray := prog_11_method_12_code
def yX9_drawn : MethodName := ⟨RX9, "drawn", "()I"⟩
abbrev cX9_isOf : ByteArray := prog_11_method_13_code
def yX9_isOf : MethodName := ⟨RX9, "isOf", "(II)Z"⟩
abbrev cX9_comes : ByteArray := prog_11_method_14_code
def yX9_comes : MethodName := ⟨RX9, "comes", "(III)V"⟩
abbrev cX9_clock : ByteArray := prog_11_method_15_code
def yX9_clock : MethodName := ⟨RX9, "clock", "(III)I"⟩
abbrev cX9_again : ByteArray := prog_11_method_17_code
def yX9_again : MethodName := ⟨RX9, "again", "(II)I"⟩
abbrev cX9_atHour : ByteArray := prog_11_method_18_code
def yX9_atHour : MethodName := ⟨RX9, "atHour", "(II)I"⟩
abbrev cX9_strikes : ByteArray := prog_11_method_19_code
def yX9_strikes : MethodName := ⟨RX9, "strikes", "(II)I"⟩
abbrev cX9_worth : ByteArray := prog_11_method_20_code
def yX9_worth : MethodName := ⟨RX9, "worth", "(I)I"⟩
abbrev cX9_timeNow : ByteArray := prog_11_method_21_code
def yX9_timeNow : MethodName := ⟨RX9, "timeNow", "()I"⟩
abbrev cX9_isTime : ByteArray := prog_11_method_22_code
def yX9_isTime : MethodName := ⟨RX9, "isTime", "(I)Z"⟩
abbrev cX9_told : ByteArray := prog_11_method_23_code
def yX9_told : MethodName := ⟨RX9, "told", "(II)I"⟩
abbrev cX9_as : ByteArray := prog_11_method_24_code
def yX9_as : MethodName := ⟨RX9, "as", "(II)I"⟩
abbrev cX9_turns : ByteArray := prog_11_method_25_code
def yX9_turns : MethodName := ⟨RX9, "turns", "(II)I"⟩
abbrev cX9_set : ByteArray := prog_11_method_26_code
def yX9_set : MethodName := ⟨RX9, "set", "(III)I"⟩
abbrev cX9_strokes : ByteArray := prog_11_method_27_code
def yX9_strokes : MethodName := ⟨RX9, "strokes", "(II)I"⟩
abbrev cX9_totalAt : ByteArray := prog_11_method_28_code
def yX9_totalAt : MethodName := ⟨RX9, "totalAt", "(I)I"⟩
abbrev cX9_total : ByteArray := prog_11_method_29_code
def yX9_total : MethodName := ⟨RX9, "total", "(I)I"⟩
abbrev cX9_ear : ByteArray := prog_11_method_30_code
def yX9_ear : MethodName := ⟨RX9, "ear", "(II)I"⟩
abbrev cX9_deal : ByteArray := prog_11_method_31_code
def yX9_deal : MethodName := ⟨RX9, "deal", "(I)I"⟩
abbrev cX9_seed : ByteArray := prog_11_method_32_code
def yX9_seed : MethodName := ⟨RX9, "seed", "(I)I"⟩
abbrev cX9_goesOn : ByteArray := prog_11_method_33_code
def yX9_goesOn : MethodName := ⟨RX9, "goesOn", "()V"⟩
abbrev cX9_goesOnMany : ByteArray := prog_11_method_34_code
def yX9_goesOnMany : MethodName := ⟨RX9, "goesOnMany", "(I)V"⟩
abbrev cX9_minutes : ByteArray := prog_11_method_35_code
def yX9_minutes : MethodName := ⟨RX9, "minutes", "(I)I"⟩
abbrev cX9_bed : ByteArray := prog_11_method_36_code
def yX9_bed : MethodName := ⟨RX9, "bed", "(I)I"⟩
abbrev cX9_note : ByteArray := prog_11_method_37_code
def yX9_note : MethodName := ⟨RX9, "note", "(I)I"⟩
abbrev cX9_findAll : ByteArray := prog_11_method_38_code
def yX9_findAll : MethodName := ⟨RX9, "findAll", "()V"⟩
abbrev cX9_findMore : ByteArray := prog_11_method_39_code
def yX9_findMore : MethodName := ⟨RX9, "findMore", "(II)V"⟩
abbrev cX9_doesFit : ByteArray := prog_11_method_40_code
def yX9_doesFit : MethodName := ⟨RX9, "doesFit", "(I)Z"⟩
abbrev cX9_manyFit : ByteArray := prog_11_method_41_code
def yX9_manyFit : MethodName := ⟨RX9, "manyFit", "()I"⟩
abbrev cX9_hoursFit : ByteArray := prog_11_method_42_code
def yX9_hoursFit : MethodName := ⟨RX9, "hoursFit", "()I"⟩
abbrev cX9_isSure : ByteArray := prog_11_method_43_code
def yX9_isSure : MethodName := ⟨RX9, "isSure", "()Z"⟩
abbrev cX9_fits : ByteArray := prog_11_method_44_code
def yX9_fits : MethodName := ⟨RX9, "fits", "(I)I"⟩
abbrev cX9_may : ByteArray := prog_11_method_45_code
def yX9_may : MethodName := ⟨RX9, "may", "(I)I"⟩
abbrev cX9_next : ByteArray := prog_11_method_46_code
def yX9_next : MethodName := ⟨RX9, "next", "()I"⟩
abbrev cX9_parts : ByteArray := prog_11_method_47_code
def yX9_parts : MethodName := ⟨RX9, "parts", "(II)I"⟩
abbrev cX9_astray : ByteArray := prog_11_method_48_code
def yX9_astray : MethodName := ⟨RX9, "astray", "(I)I"⟩
abbrev cX9_right : ByteArray := prog_11_method_49_code
def yX9_right : MethodName := ⟨RX9, "right", "(II)I"⟩
abbrev cX9_telling : ByteArray := prog_11_method_50_code
def yX9_telling : MethodName := ⟨RX9, "telling", "()I"⟩
abbrev cX9_offBy : ByteArray := prog_11_method_51_code
def yX9_offBy : MethodName := ⟨RX9, "offBy", "(II)I"⟩
abbrev cX9_like : ByteArray := prog_11_method_52_code
def yX9_like : MethodName := ⟨RX9, "like", "(II)I"⟩
abbrev cX9_laysBy : ByteArray := prog_11_method_53_code
def yX9_laysBy : MethodName := ⟨RX9, "laysBy", "()V"⟩
abbrev cX9_laysBack : ByteArray := prog_11_method_54_code
def yX9_laysBack : MethodName := ⟨RX9, "laysBack", "()V"⟩
abbrev cX9_behind : ByteArray := prog_11_method_55_code
def yX9_behind : MethodName := ⟨RX9, "behind", "(II)I"⟩
abbrev cX9_listen : ByteArray := prog_11_method_56_code
def yX9_listen : MethodName := ⟨RX9, "listen", "()I"⟩
abbrev cX9_fee : ByteArray := prog_11_method_57_code
def yX9_fee : MethodName := ⟨RX9, "fee", "()I"⟩
abbrev cX9_fine : ByteArray := prog_11_method_58_code
def yX9_fine : MethodName := ⟨RX9, "fine", "(I)I"⟩
abbrev cX9_feed : ByteArray := prog_11_method_59_code
def yX9_feed : MethodName := ⟨RX9, "feed", "(III)I"⟩
abbrev cX9_trim : ByteArray := prog_11_method_60_code
def yX9_trim : MethodName := ⟨RX9, "trim", "(I)I"⟩
abbrev cX9_isLetter : ByteArray := prog_11_method_61_code
def yX9_isLetter : MethodName := ⟨RX9, "isLetter", "(I)Z"⟩
abbrev cX9_isDigit : ByteArray := prog_11_method_62_code
def yX9_isDigit : MethodName := ⟨RX9, "isDigit", "(I)Z"⟩
abbrev cX9_nextToken : ByteArray := prog_11_method_63_code
def yX9_nextToken : MethodName := ⟨RX9, "nextToken", "()V"⟩
abbrev cX9_isSign : ByteArray := prog_11_method_64_code
def yX9_isSign : MethodName := ⟨RX9, "isSign", "(I)Z"⟩
abbrev cX9_isWordAt : ByteArray := prog_11_method_65_code
def yX9_isWordAt : MethodName := ⟨RX9, "isWordAt", "(IIII)Z"⟩
abbrev cX9_isLong : ByteArray := prog_11_method_66_code
def yX9_isLong : MethodName := ⟨RX9, "isLong", "(IIIIII)Z"⟩
abbrev cX9_key : ByteArray := prog_11_method_67_code
def yX9_key : MethodName := ⟨RX9, "key", "()I"⟩
abbrev cX9_isName : ByteArray := prog_11_method_68_code
def yX9_isName : MethodName := ⟨RX9, "isName", "(II)Z"⟩
abbrev cX9_step : ByteArray := prog_11_method_69_code
def yX9_step : MethodName := ⟨RX9, "step", "(II)V"⟩
abbrev cX9_either : ByteArray := prog_11_method_70_code
def yX9_either : MethodName := ⟨RX9, "either", "(I)Z"⟩
abbrev cX9_both : ByteArray := prog_11_method_71_code
def yX9_both : MethodName := ⟨RX9, "both", "(I)Z"⟩
abbrev cX9_test : ByteArray := prog_11_method_72_code
def yX9_test : MethodName := ⟨RX9, "test", "(I)Z"⟩
abbrev cX9_sum : ByteArray := prog_11_method_73_code
def yX9_sum : MethodName := ⟨RX9, "sum", "(I)Z"⟩
abbrev cX9_term : ByteArray := prog_11_method_74_code
def yX9_term : MethodName := ⟨RX9, "term", "(I)Z"⟩
abbrev cX9_part0 : ByteArray := prog_11_method_75_code
def yX9_part0 : MethodName := ⟨RX9, "part0", "(I)Z"⟩
abbrev cX9_parse : ByteArray := prog_11_method_76_code
def yX9_parse : MethodName := ⟨RX9, "parse", "()I"⟩
abbrev cX9_text : ByteArray := prog_11_method_77_code
def yX9_text : MethodName := ⟨RX9, "text", "()I"⟩
abbrev cX9_textTold : ByteArray := prog_11_method_78_code
def yX9_textTold : MethodName := ⟨RX9, "textTold", "(II)I"⟩
abbrev cX9_counts : ByteArray := prog_11_method_79_code
def yX9_counts : MethodName := ⟨RX9, "counts", "(I)I"⟩
abbrev cX9_why : ByteArray := prog_11_method_80_code
def yX9_why : MethodName := ⟨RX9, "why", "(I)I"⟩
abbrev cX9_joined : ByteArray := prog_11_method_81_code
def yX9_joined : MethodName := ⟨RX9, "joined", "(III)I"⟩
abbrev cX9_worked : ByteArray := prog_11_method_82_code
def yX9_worked : MethodName := ⟨RX9, "worked", "(I)I"⟩
abbrev cX9_isSheet : ByteArray := prog_11_method_83_code
def yX9_isSheet : MethodName := ⟨RX9, "isSheet", "(I)Z"⟩
abbrev cX9_sheet : ByteArray := prog_11_method_84_code
def yX9_sheet : MethodName := ⟨RX9, "sheet", "(III)I"⟩
abbrev cX9_mark : ByteArray := prog_11_method_85_code
def yX9_mark : MethodName := ⟨RX9, "mark", "(III)I"⟩
abbrev cX9_pour : ByteArray := prog_11_method_86_code
def yX9_pour : MethodName := ⟨RX9, "pour", "(I)I"⟩
abbrev cX9_reads : ByteArray := prog_11_method_87_code
def yX9_reads : MethodName := ⟨RX9, "reads", "(I)I"⟩
abbrev cX9_copy : ByteArray := prog_11_method_88_code
def yX9_copy : MethodName := ⟨RX9, "copy", "(IIIII)I"⟩
abbrev cX9_isSlot : ByteArray := prog_11_method_89_code
def yX9_isSlot : MethodName := ⟨RX9, "isSlot", "(I)Z"⟩
abbrev cX9_lay : ByteArray := prog_11_method_90_code
def yX9_lay : MethodName := ⟨RX9, "lay", "(III)I"⟩
abbrev cX9_ask : ByteArray := prog_11_method_91_code
def yX9_ask : MethodName := ⟨RX9, "ask", "(II)I"⟩
abbrev cX9_item : ByteArray := prog_11_method_92_code
def yX9_item : MethodName := ⟨RX9, "item", "(II)I"⟩
abbrev cX9_rest : ByteArray := prog_11_method_93_code
def yX9_rest : MethodName := ⟨RX9, "rest", "(II)I"⟩
abbrev cX9_tell : ByteArray := prog_11_method_94_code
def yX9_tell : MethodName := ⟨RX9, "tell", "(I)I"⟩
abbrev cX9_setAside : ByteArray := prog_11_method_95_code
def yX9_setAside : MethodName := ⟨RX9, "setAside", "([I[I)V"⟩
abbrev cX9_check : ByteArray := prog_11_method_96_code
def yX9_check : MethodName := ⟨RX9, "check", "(I)I"⟩
abbrev cX9_keep : ByteArray := prog_11_method_97_code
def yX9_keep : MethodName := ⟨RX9, "keep", "()I"⟩
abbrev cX9_back : ByteArray := prog_11_method_98_code
def yX9_back : MethodName := ⟨RX9, "back", "()I"⟩
abbrev cX9_count : ByteArray := prog_11_method_99_code
def yX9_count : MethodName := ⟨RX9, "count", "(I)I"⟩
def RJx145de : String := "java/io/Serializable"
def TJx145de : u_T := fun k => match k with
  | _ => ("", "", "", false)
def tyJx145de : Nat → FieldType := fun k => match k with
  | _ => .int
theorem nmJx145de : ∀ a, a < 0 → ∀ b, b < 0 → a ≠ b → (TJx145de a).2.1 ≠ (TJx145de b).2.1 := by decide +kernel
theorem tyJx145de_ok : ∀ k, k < 0 → parseFieldDescriptor (TJx145de k).2.2.1 = some (tyJx145de k) := by decide +kernel
def RJx9f9b0 : String := "java/lang/CharSequence"
def TJx9f9b0 : u_T := fun k => match k with
  | _ => ("", "", "", false)
def tyJx9f9b0 : Nat → FieldType := fun k => match k with
  | _ => .int
theorem nmJx9f9b0 : ∀ a, a < 0 → ∀ b, b < 0 → a ≠ b → (TJx9f9b0 a).2.1 ≠ (TJx9f9b0 b).2.1 := by decide +kernel
theorem tyJx9f9b0_ok : ∀ k, k < 0 → parseFieldDescriptor (TJx9f9b0 k).2.2.1 = some (tyJx9f9b0 k) := by decide +kernel
def RJ11 : String := "java/lang/Character"
def TJ11 : u_T := fun k => match k with
  | _ => ("", "", "", false)
def tyJ11 : Nat → FieldType := fun k => match k with
  | _ => .int
theorem nmJ11 : ∀ a, a < 0 → ∀ b, b < 0 → a ≠ b → (TJ11 a).2.1 ≠ (TJ11 b).2.1 := by decide +kernel
theorem tyJ11_ok : ∀ k, k < 0 → parseFieldDescriptor (TJ11 k).2.2.1 = some (tyJ11 k) := by decide +kernel
abbrev cJ11_isValidCodePoint_9a6ad : ByteArray := prog_12_method_11_code
def yJ11_isValidCodePoint_9a6ad : MethodName := ⟨RJ11, "isValidCodePoint", "(I)Z"⟩
abbrev cJ11_highSurrogate_5068e : ByteArray := prog_12_method_28_code
def yJ11_highSurrogate_5068e : MethodName := ⟨RJ11, "highSurrogate", "(I)C"⟩
abbrev cJ11_lowSurrogate_5068e : ByteArray := prog_12_method_29_code
def yJ11_lowSurrogate_5068e : MethodName := ⟨RJ11, "lowSurrogate", "(I)C"⟩
def RJx8e188 : String := "java/lang/Cloneable"
def TJx8e188 : u_T := fun k => match k with
  | _ => ("", "", "", false)
def tyJx8e188 : Nat → FieldType := fun k => match k with
  | _ => .int
theorem nmJx8e188 : ∀ a, a < 0 → ∀ b, b < 0 → a ≠ b → (TJx8e188 a).2.1 ≠ (TJx8e188 b).2.1 := by decide +kernel
theorem tyJx8e188_ok : ∀ k, k < 0 → parseFieldDescriptor (TJx8e188 k).2.2.1 = some (tyJx8e188 k) := by decide +kernel
def RJxb160c : String := "java/lang/Comparable"
def TJxb160c : u_T := fun k => match k with
  | _ => ("", "", "", false)
def tyJxb160c : Nat → FieldType := fun k => match k with
  | _ => .int
theorem nmJxb160c : ∀ a, a < 0 → ∀ b, b < 0 → a ≠ b → (TJxb160c a).2.1 ≠ (TJxb160c b).2.1 := by decide +kernel
theorem tyJxb160c_ok : ∀ k, k < 0 → parseFieldDescriptor (TJxb160c k).2.2.1 = some (tyJxb160c k) := by decide +kernel
def RJ6 : String := "java/lang/Integer"
def TJ6 : u_T := fun k => match k with
  | _ => ("", "", "", false)
def tyJ6 : Nat → FieldType := fun k => match k with
  | _ => .int
theorem nmJ6 : ∀ a, a < 0 → ∀ b, b < 0 → a ≠ b → (TJ6 a).2.1 ≠ (TJ6 b).2.1 := by decide +kernel
theorem tyJ6_ok : ∀ k, k < 0 → parseFieldDescriptor (TJ6 k).2.2.1 = some (tyJ6 k) := by decide +kernel
abbrev cJ6_bitCount_0f7a4 : ByteArray := prog_14_method_49_code
def yJ6_bitCount_0f7a4 : MethodName := ⟨RJ6, "bitCount", "(I)I"⟩
def RJ9 : String := "java/lang/Math"
def TJ9 : u_T := fun k => match k with
  | _ => ("", "", "", false)
def tyJ9 : Nat → FieldType := fun k => match k with
  | _ => .int
theorem nmJ9 : ∀ a, a < 0 → ∀ b, b < 0 → a ≠ b → (TJ9 a).2.1 ≠ (TJ9 b).2.1 := by decide +kernel
theorem tyJ9_ok : ∀ k, k < 0 → parseFieldDescriptor (TJ9 k).2.2.1 = some (tyJ9 k) := by decide +kernel
abbrev cJ9_floorMod_7cf53 : ByteArray := prog_15_method_50_code
def yJ9_floorMod_7cf53 : MethodName := ⟨RJ9, "floorMod", "(II)I"⟩
abbrev cJ9_abs_0f7a4 : ByteArray := prog_15_method_59_code
def yJ9_abs_0f7a4 : MethodName := ⟨RJ9, "abs", "(I)I"⟩
abbrev cJ9_max_7cf53 : ByteArray := prog_15_method_65_code
def yJ9_max_7cf53 : MethodName := ⟨RJ9, "max", "(II)I"⟩
abbrev cJ9_min_7cf53 : ByteArray := prog_15_method_69_code
def yJ9_min_7cf53 : MethodName := ⟨RJ9, "min", "(II)I"⟩
def RJ0 : String := "java/lang/String"
def TJ0 : u_T := fun k => match k with
  | _ => ("", "", "", false)
def tyJ0 : Nat → FieldType := fun k => match k with
  | _ => .int
theorem nmJ0 : ∀ a, a < 0 → ∀ b, b < 0 → a ≠ b → (TJ0 a).2.1 ≠ (TJ0 b).2.1 := by decide +kernel
theorem tyJ0_ok : ∀ k, k < 0 → parseFieldDescriptor (TJ0 k).2.2.1 = some (tyJ0 k) := by decide +kernel
abbrev cJ0_length_8abf5 : ByteArray := prog_16_method_54_code
def yJ0_length_8abf5 : MethodName := ⟨RJ0, "length", "()I"⟩
abbrev cJ0_charAt_5068e : ByteArray := prog_16_method_56_code
def yJ0_charAt_5068e : MethodName := ⟨RJ0, "charAt", "(I)C"⟩
abbrev cJ0_indexOf_0f7a4 : ByteArray := prog_16_method_79_code
def yJ0_indexOf_0f7a4 : MethodName := ⟨RJ0, "indexOf", "(I)I"⟩
abbrev cJ0_indexOf_7cf53 : ByteArray := prog_16_method_80_code
def yJ0_indexOf_7cf53 : MethodName := ⟨RJ0, "indexOf", "(II)I"⟩
abbrev cJ0_coder_7d493 : ByteArray := prog_16_method_152_code
def yJ0_coder_7d493 : MethodName := ⟨RJ0, "coder", "()B"⟩
abbrev cJ0_isLatin1_aae02 : ByteArray := prog_16_method_154_code
def yJ0_isLatin1_aae02 : MethodName := ⟨RJ0, "isLatin1", "()Z"⟩
abbrev cJ0_checkIndex_df160 : ByteArray := prog_16_method_155_code
def yJ0_checkIndex_df160 : MethodName := ⟨RJ0, "checkIndex", "(II)V"⟩
abbrev cJ0_checkBoundsBeginEnd_23922 : ByteArray := prog_16_method_158_code
def yJ0_checkBoundsBeginEnd_23922 : MethodName := ⟨RJ0, "checkBoundsBeginEnd", "(III)V"⟩
def RJ1 : String := "java/lang/StringLatin1"
def TJ1 : u_T := fun k => match k with
  | _ => ("", "", "", false)
def tyJ1 : Nat → FieldType := fun k => match k with
  | _ => .int
theorem nmJ1 : ∀ a, a < 0 → ∀ b, b < 0 → a ≠ b → (TJ1 a).2.1 ≠ (TJ1 b).2.1 := by decide +kernel
theorem tyJ1_ok : ∀ k, k < 0 → parseFieldDescriptor (TJ1 k).2.2.1 = some (tyJ1 k) := by decide +kernel
abbrev cJ1_charAt_3b067 : ByteArray := prog_17_method_2_code
def yJ1_charAt_3b067 : MethodName := ⟨RJ1, "charAt", "([BI)C"⟩
abbrev cJ1_canEncode_9a6ad : ByteArray := prog_17_method_4_code
def yJ1_canEncode_9a6ad : MethodName := ⟨RJ1, "canEncode", "(I)Z"⟩
abbrev cJ1_indexOf_4cfef : ByteArray := prog_17_method_22_code
def yJ1_indexOf_4cfef : MethodName := ⟨RJ1, "indexOf", "([BIII)I"⟩
abbrev cJ1_indexOfChar_4cfef : ByteArray := prog_17_method_23_code
def yJ1_indexOfChar_4cfef : MethodName := ⟨RJ1, "indexOfChar", "([BIII)I"⟩
def RJ2 : String := "java/lang/StringUTF16"
def TJ2 : u_T := fun k => match k with
  | _ => ("", "", "", false)
def tyJ2 : Nat → FieldType := fun k => match k with
  | _ => .int
theorem nmJ2 : ∀ a, a < 0 → ∀ b, b < 0 → a ≠ b → (TJ2 a).2.1 ≠ (TJ2 b).2.1 := by decide +kernel
theorem tyJ2_ok : ∀ k, k < 0 → parseFieldDescriptor (TJ2 k).2.2.1 = some (tyJ2 k) := by decide +kernel
abbrev cJ2_getChar_3b067 : ByteArray := prog_18_method_5_code
def yJ2_getChar_3b067 : MethodName := ⟨RJ2, "getChar", "([BI)C"⟩
abbrev cJ2_length_9d52b : ByteArray := prog_18_method_6_code
def yJ2_length_9d52b : MethodName := ⟨RJ2, "length", "([B)I"⟩
abbrev cJ2_indexOf_4cfef : ByteArray := prog_18_method_40_code
def yJ2_indexOf_4cfef : MethodName := ⟨RJ2, "indexOf", "([BIII)I"⟩
abbrev cJ2_indexOfChar_4cfef : ByteArray := prog_18_method_47_code
def yJ2_indexOfChar_4cfef : MethodName := ⟨RJ2, "indexOfChar", "([BIII)I"⟩
abbrev cJ2_indexOfCharUnsafe_4cfef : ByteArray := prog_18_method_48_code
def yJ2_indexOfCharUnsafe_4cfef : MethodName := ⟨RJ2, "indexOfCharUnsafe", "([BIII)I"⟩
abbrev cJ2_indexOfSupplementary_4cfef : ByteArray := prog_18_method_49_code
def yJ2_indexOfSupplementary_4cfef : MethodName := ⟨RJ2, "indexOfSupplementary", "([BIII)I"⟩
abbrev cJ2_charAt_3b067 : ByteArray := prog_18_method_83_code
def yJ2_charAt_3b067 : MethodName := ⟨RJ2, "charAt", "([BI)C"⟩
abbrev cJ2_checkIndex_2214a : ByteArray := prog_18_method_91_code
def yJ2_checkIndex_2214a : MethodName := ⟨RJ2, "checkIndex", "(I[B)V"⟩
abbrev cJ2_checkBoundsBeginEnd_d044e : ByteArray := prog_18_method_93_code
def yJ2_checkBoundsBeginEnd_d044e : MethodName := ⟨RJ2, "checkBoundsBeginEnd", "(II[B)V"⟩
def RJ10 : String := "java/lang/System"
def TJ10 : u_T := fun k => match k with
  | _ => ("", "", "", false)
def tyJ10 : Nat → FieldType := fun k => match k with
  | _ => .int
theorem nmJ10 : ∀ a, a < 0 → ∀ b, b < 0 → a ≠ b → (TJ10 a).2.1 ≠ (TJ10 b).2.1 := by decide +kernel
theorem tyJ10_ok : ∀ k, k < 0 → parseFieldDescriptor (TJ10 k).2.2.1 = some (tyJ10 k) := by decide +kernel
def RJxfd54e : String := "java/lang/constant/Constable"
def TJxfd54e : u_T := fun k => match k with
  | _ => ("", "", "", false)
def tyJxfd54e : Nat → FieldType := fun k => match k with
  | _ => .int
theorem nmJxfd54e : ∀ a, a < 0 → ∀ b, b < 0 → a ≠ b → (TJxfd54e a).2.1 ≠ (TJxfd54e b).2.1 := by decide +kernel
theorem tyJxfd54e_ok : ∀ k, k < 0 → parseFieldDescriptor (TJxfd54e k).2.2.1 = some (tyJxfd54e k) := by decide +kernel
def RJx3cf43 : String := "java/lang/constant/ConstantDesc"
def TJx3cf43 : u_T := fun k => match k with
  | _ => ("", "", "", false)
def tyJx3cf43 : Nat → FieldType := fun k => match k with
  | _ => .int
theorem nmJx3cf43 : ∀ a, a < 0 → ∀ b, b < 0 → a ≠ b → (TJx3cf43 a).2.1 ≠ (TJx3cf43 b).2.1 := by decide +kernel
theorem tyJx3cf43_ok : ∀ k, k < 0 → parseFieldDescriptor (TJx3cf43 k).2.2.1 = some (tyJx3cf43 k) := by decide +kernel
def RJ7 : String := "java/util/Arrays"
def TJ7 : u_T := fun k => match k with
  | _ => ("", "", "", false)
def tyJ7 : Nat → FieldType := fun k => match k with
  | _ => .int
theorem nmJ7 : ∀ a, a < 0 → ∀ b, b < 0 → a ≠ b → (TJ7 a).2.1 ≠ (TJ7 b).2.1 := by decide +kernel
theorem tyJ7_ok : ∀ k, k < 0 → parseFieldDescriptor (TJ7 k).2.2.1 = some (tyJ7 k) := by decide +kernel
abbrev cJ7_fill_53178 : ByteArray := prog_20_method_103_code
def yJ7_fill_53178 : MethodName := ⟨RJ7, "fill", "([II)V"⟩
abbrev cJ7_copyOf_59c91 : ByteArray := prog_20_method_123_code
def yJ7_copyOf_59c91 : MethodName := ⟨RJ7, "copyOf", "([II)[I"⟩
def RJ3 : String := "jdk/internal/util/Preconditions"
def TJ3 : u_T := fun k => match k with
  | _ => ("", "", "", false)
def tyJ3 : Nat → FieldType := fun k => match k with
  | _ => .int
theorem nmJ3 : ∀ a, a < 0 → ∀ b, b < 0 → a ≠ b → (TJ3 a).2.1 ≠ (TJ3 b).2.1 := by decide +kernel
theorem tyJ3_ok : ∀ k, k < 0 → parseFieldDescriptor (TJ3 k).2.2.1 = some (tyJ3 k) := by decide +kernel
abbrev cJ3_checkIndex_8e157 : ByteArray := prog_21_method_11_code
def yJ3_checkIndex_8e157 : MethodName := ⟨RJ3, "checkIndex", "(IILjava/util/function/BiFunction;)I"⟩
abbrev cJ3_checkFromToIndex_8c36e : ByteArray := prog_21_method_12_code
def yJ3_checkFromToIndex_8c36e : MethodName := ⟨RJ3, "checkFromToIndex", "(IIILjava/util/function/BiFunction;)I"⟩
def RL : String := "StrokesHeardLaw"
abbrev cL_law : ByteArray := code
def yL_law : MethodName := ⟨RL, "law", "([I)Z"⟩
abbrev vwCl : List vw_C := [(RX0, TX0, 3), (RX1, TX1, 6), (RX2, TX2, 14), (RX3, TX3, 3), (RX4, TX4, 4), (RX5, TX5, 4), (RX6, TX6, 9), (RX7, TX7, 6), (RX8, TX8, 13), (RX9, TX9, 32)]
end
section
/-! THE PURE WORLD: cells numbered from 0 on in the order of their making, the first at the address gb g; a kind and a length each; what ints and what references they hold -/
abbrev Cx : Type := Launch × Nat × va_G × (Nat → ClassId) × (Nat → Nat)
def gl (g : Cx) : Launch := g.1
def gb (g : Cx) : Nat := g.2.1
def gD (g : Cx) : va_G := g.2.2.1
def gc (g : Cx) : Nat → ClassId := g.2.2.2.1
def gx (g : Cx) : Nat → Nat := g.2.2.2.2
def gA (g : Cx) : Nat → Prop := fun q => gb g ≤ q
abbrev Wd : Type := Nat × (Nat → Nat × Nat) × (Nat → Nat → Int32) × (Nat → Nat → Option Nat)
def wn (w : Wd) : Nat := w.1
def wsh (w : Wd) : Nat → Nat × Nat := w.2.1
def wI (w : Wd) : Nat → Nat → Int32 := w.2.2.1
def wF (w : Wd) : Nat → Nat → Option Nat := w.2.2.2
/-- the ints of cell a become f; its references become f; one more cell of a kind and a length, all 0, null -/
def sR (w : Wd) (a : Nat) (f : Nat → Int32) : Wd := (w.1, w.2.1, fun i => if i = a then f else w.2.2.1 i, w.2.2.2)
def sP (w : Wd) (a : Nat) (f : Nat → Option Nat) : Wd := (w.1, w.2.1, w.2.2.1, fun i => if i = a then f else w.2.2.2 i)
def pN (w : Wd) (kd n : Nat) : Wd := (w.1 + 1, fun i => if i = w.1 then (kd, n) else w.2.1 i, fun i => if i = w.1 then (fun _ => 0) else w.2.2.1 i, fun i => if i = w.1 then (fun _ => none) else w.2.2.2 i)
def jK (w : Wd) (a kd n : Nat) : Prop := a < wn w ∧ wsh w a = (kd, n)
def uF (f : Nat → Option Nat) (k : Nat) (x : Option Nat) : Nat → Option Nat := fun j => if j = k then x else f j
theorem wn_sR (w : Wd) (a : Nat) (f : Nat → Int32) : wn (sR w a f) = wn w := rfl
theorem wsh_sR (w : Wd) (a : Nat) (f : Nat → Int32) : wsh (sR w a f) = wsh w := rfl
theorem wF_sR (w : Wd) (a : Nat) (f : Nat → Int32) : wF (sR w a f) = wF w := rfl
theorem wI_sR (w : Wd) (a : Nat) (f : Nat → Int32) (i : Nat) : wI (sR w a f) i = if i = a then f else wI w i := rfl
theorem wI_sR_s (w : Wd) (a : Nat) (f : Nat → Int32) : wI (sR w a f) a = f := by rw [wI_sR, if_pos rfl]
theorem wI_sR_n (w : Wd) {a i : Nat} (h : i ≠ a) (f : Nat → Int32) : wI (sR w a f) i = wI w i := by rw [wI_sR, if_neg h]
theorem wn_sP (w : Wd) (a : Nat) (f : Nat → Option Nat) : wn (sP w a f) = wn w := rfl
theorem wsh_sP (w : Wd) (a : Nat) (f : Nat → Option Nat) : wsh (sP w a f) = wsh w := rfl
theorem wI_sP (w : Wd) (a : Nat) (f : Nat → Option Nat) : wI (sP w a f) = wI w := rfl
theorem wF_sP (w : Wd) (a : Nat) (f : Nat → Option Nat) (i : Nat) : wF (sP w a f) i = if i = a then f else wF w i := rfl
theorem wF_sP_s (w : Wd) (a : Nat) (f : Nat → Option Nat) : wF (sP w a f) a = f := by rw [wF_sP, if_pos rfl]
theorem wF_sP_n (w : Wd) {a i : Nat} (h : i ≠ a) (f : Nat → Option Nat) : wF (sP w a f) i = wF w i := by rw [wF_sP, if_neg h]
theorem wn_pN (w : Wd) (kd n : Nat) : wn (pN w kd n) = wn w + 1 := rfl
theorem wsh_pN (w : Wd) (kd n i : Nat) : wsh (pN w kd n) i = if i = wn w then (kd, n) else wsh w i := rfl
theorem wI_pN (w : Wd) (kd n i : Nat) : wI (pN w kd n) i = if i = wn w then (fun _ => 0) else wI w i := rfl
theorem wF_pN (w : Wd) (kd n i : Nat) : wF (pN w kd n) i = if i = wn w then (fun _ => none) else wF w i := rfl
theorem jK.sR {w : Wd} {a kd n : Nat} (h : jK w a kd n) (b : Nat) (f : Nat → Int32) : jK (sR w b f) a kd n := h
theorem jK.sP {w : Wd} {a kd n : Nat} (h : jK w a kd n) (b : Nat) (f : Nat → Option Nat) : jK (sP w b f) a kd n := h
theorem jK.pN {w : Wd} {a kd n : Nat} (h : jK w a kd n) (kd' n' : Nat) : jK (pN w kd' n') a kd n := by
  obtain ⟨h1, h2⟩ := h
  refine ⟨by rw [wn_pN]; omega, ?_⟩
  rw [wsh_pN, if_neg (by omega)]
  exact h2
theorem jK_new (w : Wd) (kd n : Nat) : jK (pN w kd n) (wn w) kd n := ⟨by rw [wn_pN]; omega, by rw [wsh_pN, if_pos rfl]⟩
def jrf (g : Cx) (x : Option Nat) : Value := va_rf (x.map (fun i => gb g + i))
def jfs (ci : Nat) (I : Nat → Int32) (F : Nat → Value) : List Value := match ci with
  | 0 => [.int (I 0), .int (I 1), .int (I 2)]
  | 1 => [F 0, F 1, .int (I 2), .int (I 3), .int (I 4), .int (I 5)]
  | 2 => [F 0, .int (I 1), .int (I 2), .int (I 3), .int (I 4), .int (I 5), .int (I 6), .int (I 7), .int (I 8), F 9, .int (I 10), F 11, .int (I 12), F 13]
  | 3 => [.int (I 0), .int (I 1), F 2]
  | 4 => [.int (I 0), F 1, F 2, .int (I 3)]
  | 5 => [.int (I 0), .int (I 1), F 2, F 3]
  | 6 => [F 0, .int (I 1), .int (I 2), .int (I 3), .int (I 4), .int (I 5), .int (I 6), F 7, .int (I 8)]
  | 7 => [F 0, F 1, F 2, F 3, F 4, .int (I 5)]
  | 8 => [F 0, F 1, F 2, .int (I 3), F 4, F 5, F 6, F 7, .int (I 8), F 9, .int (I 10), F 11, F 12]
  | 9 => [F 0, F 1, F 2, .int (I 3), F 4, F 5, F 6, F 7, F 8, F 9, F 10, F 11, F 12, F 13, F 14, .int (I 15), .int (I 16), .int (I 17), .int (I 18), .int (I 19), .int (I 20), .int (I 21), .int (I 22), .int (I 23), .int (I 24), .int (I 25), F 26, F 27, F 28, F 29, .int (I 30), F 31]
  | _ => []
def cE (g : Cx) (w : Wd) (i : Nat) : va_E :=
  if (wsh w i).1 < 10 then .inr ((wsh w i).1, jfs (wsh w i).1 (wI w i) (fun k => jrf g (wF w i k)))
  else if (wsh w i).1 < 12 then .inl (gc g ((wsh w i).1 - 10), (wsh w i).2, .inl (wI w i))
  else .inl (gc g ((wsh w i).1 - 10), (wsh w i).2, .inr (.inr (.inr (.inr (fun j => (wF w i j).map (fun i => gb g + i))))))
def wl (g : Cx) (w : Wd) : va_W := (List.range (wn w)).map (fun i => (gb g + i, cE g w i))
theorem wl_at (g : Cx) (w : Wd) {i : Nat} (h : i < wn w) : (wl g w)[i]? = some (gb g + i, cE g w i) := by
  simp [wl, h]
theorem wl_of {g : Cx} {w : Wd} {i : Nat} {q : Nat × va_E} (h : (wl g w)[i]? = some q) : i < wn w ∧ q = (gb g + i, cE g w i) := by
  have hl : i < (wl g w).length := (List.getElem?_eq_some_iff.mp h).1
  have hi : i < wn w := by simpa [wl] using hl
  rw [wl_at g w hi] at h
  exact ⟨hi, (Option.some.inj h).symm⟩
theorem wl_D (g : Cx) (w : Wd) : va_D (gA g) (wl g w) := by
  refine ⟨fun i j p q hi hj hpq => ?_, fun k q hk => ?_⟩
  · obtain ⟨-, rfl⟩ := wl_of hi
    obtain ⟨-, rfl⟩ := wl_of hj
    simp only at hpq
    omega
  · obtain ⟨-, rfl⟩ := wl_of hk
    exact Nat.le_add_right _ _
theorem wl_len (g : Cx) (w : Wd) : (wl g w).length = wn w := by simp [wl]
theorem wl_set {g : Cx} {w w' : Wd} {a : Nat} {e : va_E} (ha : a < wn w) (hn : wn w' = wn w) (he : cE g w' a = e) (ho : ∀ i, i ≠ a → cE g w' i = cE g w i) : (wl g w).set a (gb g + a, e) = wl g w' := by
  apply List.ext_getElem?
  intro i
  by_cases hi : i < wn w
  · by_cases hia : i = a
    · subst hia
      rw [List.getElem?_set_self (by rw [wl_len]; exact hi), wl_at g w' (by rw [hn]; exact hi), he]
    · rw [List.getElem?_set_ne (Ne.symm hia), wl_at g w hi, wl_at g w' (by rw [hn]; exact hi), ho i hia]
  · rw [List.getElem?_eq_none (by rw [List.length_set, wl_len]; omega), List.getElem?_eq_none (by rw [wl_len, hn]; omega)]
theorem wl_push {g : Cx} {w : Wd} {kd n : Nat} {e : va_E} (he : cE g (pN w kd n) (wn w) = e) : wl g w ++ [(gb g + wn w, e)] = wl g (pN w kd n) := by
  apply List.ext_getElem?
  intro i
  by_cases hi : i < wn w
  · rw [List.getElem?_append_left (by rw [wl_len]; exact hi), wl_at g w hi, wl_at g _ (by rw [wn_pN]; omega)]
    congr 2
    simp only [cE, wsh_pN, wI_pN, wF_pN, if_neg (Nat.ne_of_lt hi)]
  · by_cases hia : i = wn w
    · subst hia
      rw [List.getElem?_append_right (by rw [wl_len]; exact Nat.le_refl _), wl_len, Nat.sub_self, wl_at g _ (by rw [wn_pN]; omega), he]
      rfl
    · rw [List.getElem?_eq_none (by rw [List.length_append, wl_len, List.length_singleton]; omega), List.getElem?_eq_none (by rw [wl_len, wn_pN]; omega)]
theorem cE_obj {g : Cx} {w : Wd} {a ci : Nat} (h : jK w a ci 0) (hc : ci < 10) : cE g w a = .inr (ci, jfs ci (wI w a) (fun k => jrf g (wF w a k))) := by
  simp only [cE, h.2, if_pos hc]
theorem cE_int {g : Cx} {w : Wd} {a kd n : Nat} (h : jK w a kd n) (h1 : ¬ kd < 10) (h2 : kd < 12) : cE g w a = .inl (gc g (kd - 10), n, .inl (wI w a)) := by
  simp only [cE, h.2, if_neg h1, if_pos h2]
theorem cE_ref {g : Cx} {w : Wd} {a kd n : Nat} (h : jK w a kd n) (h1 : ¬ kd < 10) (h2 : ¬ kd < 12) : cE g w a = .inl (gc g (kd - 10), n, .inr (.inr (.inr (.inr (fun j => (wF w a j).map (fun i => gb g + i)))))) := by
  simp only [cE, h.2, if_neg h1, if_neg h2]
theorem cE_sR_o {g : Cx} {w : Wd} {a i : Nat} {f : Nat → Int32} (h : i ≠ a) : cE g (sR w a f) i = cE g w i := by
  simp only [cE, wsh_sR, wF_sR, wI_sR_n w h]
theorem cE_sP_o {g : Cx} {w : Wd} {a i : Nat} {f : Nat → Option Nat} (h : i ≠ a) : cE g (sP w a f) i = cE g w i := by
  simp only [cE, wsh_sP, wI_sP, wF_sP_n w h]
/-! the words that every method is given, and what else a state must know -/
def kw : List Cond := lw_tbl.filter goodWord
theorem kw_in {w : Cond} (h : w ∈ lw_tbl) (hg : goodWord w = true) : w ∈ kw := List.mem_filter.mpr ⟨h, hg⟩
theorem kw_good (y : MethodName) (b : ByteArray) (n : Nat) (r : Option FieldType) (h : Cond.code y b n r ∈ kw) : GoodIn kw (Cond.code y b n r :: kw) := by
  intro w hw
  have hm : w ∈ kw := by
    rcases List.mem_cons.mp hw with e | e
    · rw [e]; exact h
    · exact e
  exact ⟨hm, good_of_word (List.mem_filter.mp hm).2⟩
def kcl : List vw_C := vwCl
def jtys (g : Cx) : List (ClassId × FieldType) := [(gc g 0, .byte), (gc g 1, .int), (gc g 2, .object RX0), (gc g 3, .object RX3), (gc g 4, .object RX4), (gc g 5, .object RX5)]
def jnest : List (String × Nat × MethodName × String) := [(RX2, 62, yX0_init, "StrokesHeard"), (RX8, 28, yX1_init, "StrokesHeard"), (RX8, 35, yX7_init, "StrokesHeard"), (RX8, 42, yX6_init, "StrokesHeard"), (RX8, 74, yX3_init, "StrokesHeard"), (RX8, 75, yX4_init, "StrokesHeard"), (RX4, 17, yX0_init, "StrokesHeard"), (RX4, 24, yX3_init, "StrokesHeard"), (RX2, 73, yX8_within, "StrokesHeard"), (RX2, 111, yX8_isUnder, "StrokesHeard"), (RX2, 102, yX8_held, "StrokesHeard"), (RX2, 118, yX8_strokesWithin, "StrokesHeard"), (RX1, 59, yX8_isUnder, "StrokesHeard"), (RX1, 67, yX8_strokesWithin, "StrokesHeard"), (RX1, 88, yX8_held, "StrokesHeard"), (RX3, 38, yX8_within, "StrokesHeard"), (RX3, 22, yX8_held, "StrokesHeard")]
def jarr : List String := [RX0, RX3, RX4, RX5]
def jlens : List Nat := [5, 3, 4, 3, 2, 2, 2, 2, 3]
def jbyts : List (List Int32) := [[97, 103, 97, 105, 110], [102, 101, 101], [102, 105, 110, 101], [111, 116, 104], [101, 109], [111, 116], [42, 47], [43, 45], [60, 61, 62]]
def jstr : List (Nat × String) := [(89, "again"), (95, "fee"), (97, "fine"), (134, "oth"), (136, "em"), (138, "ot"), (126, "*/"), (121, "+-"), (112, "<=>")]
def jabv (j : Nat) : Int32 := ([-1, 0, 0, 1, 2, 0] : List Int32).getD j 0
/-- what a state knows beyond the words: the classes, the static row ABOVE, the String constants, the nest's links -/
def GS (g : Cx) (s : State) : Prop :=
  va_K (gD g) kcl (jtys g) s ∧ gb g ≤ s.heap.size ∧
  va_Z "StrokesHeard" "ABOVE" "[I" (.ref (gx g 0)) (gA g) s s.heap ∧ va_T .int (gx g 0) 6 (fun j => .int (jabv j)) (gA g) s s.heap ∧
  va_Z "java/lang/String" "COMPACT_STRINGS" "Z" (.int 1) (gA g) s s.heap ∧ va_Zq "jdk/internal/util/Preconditions" "SIOOBE_FORMATTER" "Ljava/util/function/BiFunction;" (gA g) s s.heap ∧
  vk_S 9 jlens jbyts (fun i => gx g (1 + i)) (fun i => gx g (10 + i)) (gA g) s s.heap ∧ (∀ i q, jstr[i]? = some q → vk_R RX6 q.1 q.2 (gx g (1 + i)) s) ∧
  (∀ q ∈ jnest, va_Nw (.methodLinkNest q.1 q.2.1 q.2.2.1 q.2.2.2) s) ∧ ∀ C ∈ jarr, va_AO C s
theorem GS.to {g : Cx} {s U : State} {H : Heap} {locs : List Loc} (h : GS g s) (hW : s.WarmedH U.vm) (hS : va_S (gA g) s.heap H locs) (hU : U.heap = H) : GS g U := by
  obtain ⟨h1, h2, h3, h4, h5, h6, h7, h8, h9, h10⟩ := h
  have hk : ∀ a : Nat, a < s.heap.size → ¬ gA g a → U.heap[a]? = s.heap[a]? := fun a ha hn => by rw [hU]; exact hS.2.1 a ha hn
  have ha := hW.alike
  exact ⟨va_K.moved ha h1, by rw [hU]; exact Nat.le_trans h2 hS.1, (va_Z.moved ha h3).kept hk, (va_T.moved ha h4).kept hk, (va_Z.moved ha h5).kept hk, (va_Zq.moved ha h6).kept hk, (vk_S.moved ha h7).kept hk, fun i q hq => vk_R.warm hW (h8 i q hq), fun q hq => va_Nw.warmM hW (h9 q hq), fun C hC => va_AO.moved ha (h10 C hC)⟩
theorem GS.calling {g : Cx} {U : State} (h : GS g U) (f : JFrame) (mk : MethodId) (a : Array Value) : GS g (U.calling f mk a) := by
  obtain ⟨h1, h2, h3, h4, h5, h6, h7, h8, h9, h10⟩ := h
  have ha : U.vm.Alike (U.calling f mk a).vm := Vm.Alike.refl U.vm
  exact ⟨va_K.moved ha h1, h2, va_Z.moved ha h3, va_T.moved ha h4, va_Z.moved ha h5, va_Zq.moved ha h6, vk_S.moved ha h7, fun i q hq => vk_R.same (u := U) rfl (h8 i q hq), fun q hq => va_Nw.same (u := U) rfl rfl (h9 q hq), fun C hC => va_AO.moved ha (h10 C hC)⟩
/-! runs -/
def jrm (d kc ks : Nat) : Room := { frames := d, cells := kc, slots := ks, locals := 40 * d }
def jasc : Nat → List (Option Value) → List (Nat × Value)
  | _, [] => []
  | i, none :: l => jasc (i + 1) l
  | i, some v :: l => (i, v) :: jasc (i + 1) l
def JX (g : Cx) (own : String) (cc : ByteArray) (nL : Nat) (ret : Option FieldType) (nm : String) (p : Program) (s : State) (m : MethodId) (args : Array Value) (meth : Method) (c : Code) : Prop :=
  CallFix p m c cc nL s args kw own ∧ meth.sig.returnType = ret ∧ meth.locks = false ∧ meth.name = nm ∧ GS g s
def Rp (g : Cx) (w : Wd) (s : State) (H : Heap) (locs : List Loc) : Prop := H.size = gb g + wn w ∧ va_P (gD g) kcl (wl g w) H ∧ va_S (gA g) s.heap H locs
def QQ (g : Cx) (Q : Option Value → Wd → Prop) : Array Value → State → Outcome → State → Prop := fun _ st oc t =>
  (∃ v w', oc = .returned v ∧ Q v w' ∧ t.heap.size = gb g + wn w' ∧ va_P (gD g) kcl (wl g w') t.heap) ∧ va_F (gA g) st t
def RR (g : Cx) (own : String) (cc : ByteArray) (nL : Nat) (ret : Option FieldType) (nm : String) (d kc ks rk rn pc : Nat) (lv : List (Option Value)) (st : List Value) (w : Wd) (Q : Option Value → Wd → Prop) : Prop :=
  ∀ (p : Program) (e : Env) (s : State) (m : MethodId) (args : Array Value) (below : List Frame) (meth : Method) (c : Code) (H : Heap) (locs : List Loc) (cells slots : Nat) (ls : Array Slot),
    JX g own cc nL ret nm p s m args meth c → Rp g w s H locs → cells + rk ≤ kc → slots + rn ≤ ks → lv_has ls nL (jasc 0 lv) →
    W p (gl g) e (jrm d kc ks) s m args below meth c H locs cells slots (MQ below (QQ g Q) args s kc ks (gA g)) (F0 m pc ls st)
/-- a method's contract over the pure world -/
def CC (g : Cx) (y : MethodName) (cc : ByteArray) (nL : Nat) (ret : Option FieldType) (d kc ks : Nat) (av : List Value) (w : Wd) (Q : Option Value → Wd → Prop) : Prop :=
  Met (gl g) y (Cond.code y cc nL ret :: kw) (jrm d kc ks) (va_Pc av (fun U => GS g U ∧ U.heap.size = gb g + wn w ∧ va_P (gD g) kcl (wl g w) U.heap)) (QQ g Q) kc ks (gA g)
def CI (g : Cx) (y : MethodName) (cc : ByteArray) (nL : Nat) (ret : Option FieldType) (d kc ks : Nat) (av : List Value) (w : Wd) (Q : Int32 → Wd → Prop) : Prop := CC g y cc nL ret d kc ks av w (fun v w' => ∃ r, v = some (.int r) ∧ Q r w')
def CV (g : Cx) (y : MethodName) (cc : ByteArray) (nL : Nat) (d kc ks : Nat) (av : List Value) (w : Wd) (Q : Wd → Prop) : Prop := CC g y cc nL none d kc ks av w (fun v w' => v = none ∧ Q w')
def CR (g : Cx) (y : MethodName) (cc : ByteArray) (nL : Nat) (ret : Option FieldType) (d kc ks : Nat) (av : List Value) (w : Wd) (Q : Value → Wd → Prop) : Prop := CC g y cc nL ret d kc ks av w (fun v w' => ∃ r, v = some r ∧ Q r w')
theorem jasc_mem {n : Nat} {lv : List (Option Value)} {i : Nat} {v : Value} (h : lv[i]? = some (some v)) : (n + i, v) ∈ jasc n lv := by
  induction lv generalizing n i with
  | nil => simp at h
  | cons a l ih =>
    cases i with
    | zero =>
      simp at h
      subst h
      simp [jasc]
    | succ i =>
      simp at h
      have := ih (n := n + 1) h
      rw [show n + 1 + i = n + (i + 1) by omega] at this
      cases a with
      | none => simpa [jasc] using this
      | some u => simp [jasc, this]
theorem jasc_of {n : Nat} {lv : List (Option Value)} {q : Nat × Value} (h : q ∈ jasc n lv) : n ≤ q.1 ∧ lv[q.1 - n]? = some (some q.2) := by
  induction lv generalizing n with
  | nil => simp [jasc] at h
  | cons a l ih =>
    cases a with
    | none =>
      obtain ⟨h1, h2⟩ := ih (n := n + 1) (by simpa [jasc] using h)
      refine ⟨by omega, ?_⟩
      rw [show q.1 - n = (q.1 - (n + 1)) + 1 by omega]
      simpa using h2
    | some u =>
      rcases List.mem_cons.mp (by simpa [jasc] using h) with e | e
      · subst e; simp
      · obtain ⟨h1, h2⟩ := ih (n := n + 1) e
        refine ⟨by omega, ?_⟩
        rw [show q.1 - n = (q.1 - (n + 1)) + 1 by omega]
        simpa using h2
theorem jat {ls : Array Slot} {nL : Nat} {lv : List (Option Value)} (h : lv_has ls nL (jasc 0 lv)) {i : Nat} {v : Value} (hi : lv[i]? = some (some v)) : ls[i]? = some (.val v) := by
  have h1 := jasc_mem (n := 0) hi
  rw [Nat.zero_add] at h1
  exact h.2.2 (i, v) h1
def jc1 : Option Value → Bool
  | none => true
  | some v => v.category == 1
theorem jstore {ls : Array Slot} {nL i : Nat} {lv : List (Option Value)} {v : Value} (hc : ∀ k, k + 1 = i → jc1 (lv.getD k none) = true) (h : lv_has ls nL ((i, v) :: (jasc 0 lv).filter (fun q => !(q.1 == i) && !(q.1 + 1 == i && q.2.category == 2)))) : lv_has ls nL (jasc 0 (lv.set i (some v))) := by
  refine ⟨h.1, h.2.1, fun q hq => ?_⟩
  obtain ⟨-, h1⟩ := jasc_of hq
  rw [Nat.sub_zero] at h1
  by_cases he : i = q.1
  · subst he
    have hl : q.1 < lv.length := by
      have := (List.getElem?_eq_some_iff.mp h1).1
      simpa using this
    rw [List.getElem?_set_self hl] at h1
    have h2 : v = q.2 := by simpa using h1
    have := h.2.2 (q.1, v) List.mem_cons_self
    rw [h2] at this
    exact this
  · rw [List.getElem?_set_ne he] at h1
    apply h.2.2
    refine List.mem_cons_of_mem _ (List.mem_filter.mpr ⟨by have := jasc_mem (n := 0) h1; rw [Nat.zero_add] at this; exact this, ?_⟩)
    have e1 : (q.1 == i) = false := by simpa using Ne.symm he
    have e2 : (q.1 + 1 == i && q.2.category == 2) = false := by
      by_cases h3 : q.1 + 1 = i
      · have h4 := hc q.1 h3
        rw [List.getD_eq_getElem?_getD, h1] at h4
        simp only [Option.getD_some, jc1] at h4
        simp at h4
        simp [h4]
      · have : (q.1 + 1 == i) = false := by simpa using h3
        rw [this]; rfl
    rw [e1, e2]; rfl
end
section
section
variable {g : Cx} {own : String} {cc : ByteArray} {nL : Nat} {ret : Option FieldType} {nm : String} {d kc ks rk rn pc : Nat} {lv : List (Option Value)} {st : List Value} {w : Wd} {Q : Option Value → Wd → Prop}
theorem jr_iadd {x y : Int32} (hd : decode cc pc = .ok (.iadd, 1))  (K : RR g own cc nL ret nm d kc ks rk rn (pc + 1) lv (.int (x + y) :: st) w Q) : RR g own cc nL ret nm d kc ks rk rn pc lv (.int y :: .int x :: st) w Q :=
  fun p e s m args below meth c H locs cells slots ls hj hr h1 h2 hl => lv_iadd hj.1.1 hj.1.2.1 hd  (K p e s m args below meth c H locs cells slots ls hj hr h1 h2 hl)
theorem jr_isub {x y : Int32} (hd : decode cc pc = .ok (.isub, 1))  (K : RR g own cc nL ret nm d kc ks rk rn (pc + 1) lv (.int (x - y) :: st) w Q) : RR g own cc nL ret nm d kc ks rk rn pc lv (.int y :: .int x :: st) w Q :=
  fun p e s m args below meth c H locs cells slots ls hj hr h1 h2 hl => lv_isub hj.1.1 hj.1.2.1 hd  (K p e s m args below meth c H locs cells slots ls hj hr h1 h2 hl)
theorem jr_imul {x y : Int32} (hd : decode cc pc = .ok (.imul, 1))  (K : RR g own cc nL ret nm d kc ks rk rn (pc + 1) lv (.int (x * y) :: st) w Q) : RR g own cc nL ret nm d kc ks rk rn pc lv (.int y :: .int x :: st) w Q :=
  fun p e s m args below meth c H locs cells slots ls hj hr h1 h2 hl => lv_imul hj.1.1 hj.1.2.1 hd  (K p e s m args below meth c H locs cells slots ls hj hr h1 h2 hl)
theorem jr_iand {x y : Int32} (hd : decode cc pc = .ok (.iand, 1))  (K : RR g own cc nL ret nm d kc ks rk rn (pc + 1) lv (.int (x &&& y) :: st) w Q) : RR g own cc nL ret nm d kc ks rk rn pc lv (.int y :: .int x :: st) w Q :=
  fun p e s m args below meth c H locs cells slots ls hj hr h1 h2 hl => lv_iand hj.1.1 hj.1.2.1 hd  (K p e s m args below meth c H locs cells slots ls hj hr h1 h2 hl)
theorem jr_ior {x y : Int32} (hd : decode cc pc = .ok (.ior, 1))  (K : RR g own cc nL ret nm d kc ks rk rn (pc + 1) lv (.int (x ||| y) :: st) w Q) : RR g own cc nL ret nm d kc ks rk rn pc lv (.int y :: .int x :: st) w Q :=
  fun p e s m args below meth c H locs cells slots ls hj hr h1 h2 hl => lv_ior hj.1.1 hj.1.2.1 hd  (K p e s m args below meth c H locs cells slots ls hj hr h1 h2 hl)
theorem jr_ixor {x y : Int32} (hd : decode cc pc = .ok (.ixor, 1))  (K : RR g own cc nL ret nm d kc ks rk rn (pc + 1) lv (.int (x ^^^ y) :: st) w Q) : RR g own cc nL ret nm d kc ks rk rn pc lv (.int y :: .int x :: st) w Q :=
  fun p e s m args below meth c H locs cells slots ls hj hr h1 h2 hl => lv_ixor hj.1.1 hj.1.2.1 hd  (K p e s m args below meth c H locs cells slots ls hj hr h1 h2 hl)
theorem jr_ishl {x y : Int32} (hd : decode cc pc = .ok (.ishl, 1))  (K : RR g own cc nL ret nm d kc ks rk rn (pc + 1) lv (.int (x <<< (y &&& 31)) :: st) w Q) : RR g own cc nL ret nm d kc ks rk rn pc lv (.int y :: .int x :: st) w Q :=
  fun p e s m args below meth c H locs cells slots ls hj hr h1 h2 hl => lv_ishl hj.1.1 hj.1.2.1 hd  (K p e s m args below meth c H locs cells slots ls hj hr h1 h2 hl)
theorem jr_ishr {x y : Int32} (hd : decode cc pc = .ok (.ishr, 1))  (K : RR g own cc nL ret nm d kc ks rk rn (pc + 1) lv (.int (x >>> (y &&& 31)) :: st) w Q) : RR g own cc nL ret nm d kc ks rk rn pc lv (.int y :: .int x :: st) w Q :=
  fun p e s m args below meth c H locs cells slots ls hj hr h1 h2 hl => lv_ishr hj.1.1 hj.1.2.1 hd  (K p e s m args below meth c H locs cells slots ls hj hr h1 h2 hl)
theorem jr_idiv {x y : Int32} (hd : decode cc pc = .ok (.idiv, 1)) (hne : ¬ y = 0) (K : RR g own cc nL ret nm d kc ks rk rn (pc + 1) lv (.int (x / y) :: st) w Q) : RR g own cc nL ret nm d kc ks rk rn pc lv (.int y :: .int x :: st) w Q :=
  fun p e s m args below meth c H locs cells slots ls hj hr h1 h2 hl => lv_idiv hj.1.1 hj.1.2.1 hd hne (K p e s m args below meth c H locs cells slots ls hj hr h1 h2 hl)
theorem jr_irem {x y : Int32} (hd : decode cc pc = .ok (.irem, 1)) (hne : ¬ y = 0) (K : RR g own cc nL ret nm d kc ks rk rn (pc + 1) lv (.int (x - x / y * y) :: st) w Q) : RR g own cc nL ret nm d kc ks rk rn pc lv (.int y :: .int x :: st) w Q :=
  fun p e s m args below meth c H locs cells slots ls hj hr h1 h2 hl => lv_irem hj.1.1 hj.1.2.1 hd hne (K p e s m args below meth c H locs cells slots ls hj hr h1 h2 hl)
theorem jr_iushr {x y : Int32} (hd : decode cc pc = .ok (.iushr, 1))  (K : RR g own cc nL ret nm d kc ks rk rn (pc + 1) lv (.int (x.toUInt32 >>> (y.toUInt32 &&& Int32.toUInt32 31)).toInt32 :: st) w Q) : RR g own cc nL ret nm d kc ks rk rn pc lv (.int y :: .int x :: st) w Q :=
  fun p e s m args below meth c H locs cells slots ls hj hr h1 h2 hl => lv_iushr hj.1.1 hj.1.2.1 hd rfl (K p e s m args below meth c H locs cells slots ls hj hr h1 h2 hl)
theorem jr_ineg {x : Int32} (hd : decode cc pc = .ok (.ineg, 1))  (K : RR g own cc nL ret nm d kc ks rk rn (pc + 1) lv (.int (-x) :: st) w Q) : RR g own cc nL ret nm d kc ks rk rn pc lv (.int x :: st) w Q :=
  fun p e s m args below meth c H locs cells slots ls hj hr h1 h2 hl => lv_ineg hj.1.1 hj.1.2.1 hd  (K p e s m args below meth c H locs cells slots ls hj hr h1 h2 hl)
theorem jr_i2l {x : Int32} (hd : decode cc pc = .ok (.i2l, 1))  (K : RR g own cc nL ret nm d kc ks rk rn (pc + 1) lv (.long x.toInt64 :: st) w Q) : RR g own cc nL ret nm d kc ks rk rn pc lv (.int x :: st) w Q :=
  fun p e s m args below meth c H locs cells slots ls hj hr h1 h2 hl => lv_i2l hj.1.1 hj.1.2.1 hd rfl (K p e s m args below meth c H locs cells slots ls hj hr h1 h2 hl)
theorem jr_i2b {x : Int32} (hd : decode cc pc = .ok (.i2b, 1))  (K : RR g own cc nL ret nm d kc ks rk rn (pc + 1) lv (.int x.toInt8.toInt32 :: st) w Q) : RR g own cc nL ret nm d kc ks rk rn pc lv (.int x :: st) w Q :=
  fun p e s m args below meth c H locs cells slots ls hj hr h1 h2 hl => lv_i2b hj.1.1 hj.1.2.1 hd rfl (K p e s m args below meth c H locs cells slots ls hj hr h1 h2 hl)
theorem jr_i2s {x : Int32} (hd : decode cc pc = .ok (.i2s, 1))  (K : RR g own cc nL ret nm d kc ks rk rn (pc + 1) lv (.int x.toInt16.toInt32 :: st) w Q) : RR g own cc nL ret nm d kc ks rk rn pc lv (.int x :: st) w Q :=
  fun p e s m args below meth c H locs cells slots ls hj hr h1 h2 hl => lv_i2s hj.1.1 hj.1.2.1 hd rfl (K p e s m args below meth c H locs cells slots ls hj hr h1 h2 hl)
theorem jr_i2c {x : Int32} (hd : decode cc pc = .ok (.i2c, 1))  (K : RR g own cc nL ret nm d kc ks rk rn (pc + 1) lv (.int (x.toUInt32 % 65536).toInt32 :: st) w Q) : RR g own cc nL ret nm d kc ks rk rn pc lv (.int x :: st) w Q :=
  fun p e s m args below meth c H locs cells slots ls hj hr h1 h2 hl => lv_i2c hj.1.1 hj.1.2.1 hd rfl (K p e s m args below meth c H locs cells slots ls hj hr h1 h2 hl)
theorem jr_ladd {x y : Int64} (hd : decode cc pc = .ok (.ladd, 1))  (K : RR g own cc nL ret nm d kc ks rk rn (pc + 1) lv (.long (x + y) :: st) w Q) : RR g own cc nL ret nm d kc ks rk rn pc lv (.long y :: .long x :: st) w Q :=
  fun p e s m args below meth c H locs cells slots ls hj hr h1 h2 hl => lv_ladd hj.1.1 hj.1.2.1 hd  (K p e s m args below meth c H locs cells slots ls hj hr h1 h2 hl)
theorem jr_lcmp {x y : Int64} (hd : decode cc pc = .ok (.lcmp, 1))  (K : RR g own cc nL ret nm d kc ks rk rn (pc + 1) lv (.int (lg_cmp x y) :: st) w Q) : RR g own cc nL ret nm d kc ks rk rn pc lv (.long y :: .long x :: st) w Q :=
  fun p e s m args below meth c H locs cells slots ls hj hr h1 h2 hl => W.lcmp hj.1.1 hj.1.2.1 hd  (K p e s m args below meth c H locs cells slots ls hj hr h1 h2 hl)
theorem jr_dup {v : Value} (hd : decode cc pc = .ok (.dup, 1)) (hv : v.category = 1) (K : RR g own cc nL ret nm d kc ks rk rn (pc + 1) lv (v :: v :: st) w Q) : RR g own cc nL ret nm d kc ks rk rn pc lv (v :: st) w Q :=
  fun p e s m args below meth c H locs cells slots ls hj hr h1 h2 hl => lv_dup hj.1.1 hj.1.2.1 hd hv (K p e s m args below meth c H locs cells slots ls hj hr h1 h2 hl)
theorem jr_pop {v : Value} (hd : decode cc pc = .ok (.pop, 1)) (hv : v.category = 1) (K : RR g own cc nL ret nm d kc ks rk rn (pc + 1) lv st w Q) : RR g own cc nL ret nm d kc ks rk rn pc lv (v :: st) w Q :=
  fun p e s m args below meth c H locs cells slots ls hj hr h1 h2 hl => lv_pop hj.1.1 hj.1.2.1 hd hv (K p e s m args below meth c H locs cells slots ls hj hr h1 h2 hl)
theorem jr_dup2 {v u : Value} (hd : decode cc pc = .ok (.dup2, 1)) (hv : v.category = 1) (hu : u.category = 1) (K : RR g own cc nL ret nm d kc ks rk rn (pc + 1) lv (v :: u :: v :: u :: st) w Q) : RR g own cc nL ret nm d kc ks rk rn pc lv (v :: u :: st) w Q :=
  fun p e s m args below meth c H locs cells slots ls hj hr h1 h2 hl => lv_dup2_11 hj.1.1 hj.1.2.1 hd hv hu (K p e s m args below meth c H locs cells slots ls hj hr h1 h2 hl)
theorem jr_null  (hd : decode cc pc = .ok (.aconst_null, 1))  (K : RR g own cc nL ret nm d kc ks rk rn (pc + 1) lv (.null :: st) w Q) : RR g own cc nL ret nm d kc ks rk rn pc lv st w Q :=
  fun p e s m args below meth c H locs cells slots ls hj hr h1 h2 hl => lv_null hj.1.1 hj.1.2.1 hd  (K p e s m args below meth c H locs cells slots ls hj hr h1 h2 hl)
theorem jr_iconst {n : Int} (v : Int32) (hd : decode cc pc = .ok (.iconst n, 1)) (hv : Int32.ofInt n = v) (K : RR g own cc nL ret nm d kc ks rk rn (pc + 1) lv (.int v :: st) w Q) : RR g own cc nL ret nm d kc ks rk rn pc lv st w Q :=
  fun p e s m args below meth c H locs cells slots ls hj hr h1 h2 hl => lv_iconst hj.1.1 hj.1.2.1 hd hv (K p e s m args below meth c H locs cells slots ls hj hr h1 h2 hl)
theorem jr_bipush {n : Int} (v : Int32) (hd : decode cc pc = .ok (.bipush n, 2)) (hv : (Int8.ofInt n).toInt32 = v) (K : RR g own cc nL ret nm d kc ks rk rn (pc + 2) lv (.int v :: st) w Q) : RR g own cc nL ret nm d kc ks rk rn pc lv st w Q :=
  fun p e s m args below meth c H locs cells slots ls hj hr h1 h2 hl => lv_bipush hj.1.1 hj.1.2.1 hd hv (K p e s m args below meth c H locs cells slots ls hj hr h1 h2 hl)
theorem jr_sipush {n : Int} (v : Int32) (hd : decode cc pc = .ok (.sipush n, 3)) (hv : (Int16.ofInt n).toInt32 = v) (K : RR g own cc nL ret nm d kc ks rk rn (pc + 3) lv (.int v :: st) w Q) : RR g own cc nL ret nm d kc ks rk rn pc lv st w Q :=
  fun p e s m args below meth c H locs cells slots ls hj hr h1 h2 hl => lv_sipush hj.1.1 hj.1.2.1 hd hv (K p e s m args below meth c H locs cells slots ls hj hr h1 h2 hl)
theorem jr_lconst {n : Fin 2} (v : Int64) (hd : decode cc pc = .ok (.lconst n, 1)) (hv : Int64.ofNat (n : Nat) = v) (K : RR g own cc nL ret nm d kc ks rk rn (pc + 1) lv (.long v :: st) w Q) : RR g own cc nL ret nm d kc ks rk rn pc lv st w Q :=
  fun p e s m args below meth c H locs cells slots ls hj hr h1 h2 hl => lv_lconst hj.1.1 hj.1.2.1 hd hv (K p e s m args below meth c H locs cells slots ls hj hr h1 h2 hl)
theorem jr_iload_n {k : Fin 4} {x : Int32} (hd : decode cc pc = .ok (.iload_n k, 1)) (hi : lv[(k : Nat)]? = some (some (.int x))) (K : RR g own cc nL ret nm d kc ks rk rn (pc + 1) lv (.int x :: st) w Q) : RR g own cc nL ret nm d kc ks rk rn pc lv st w Q :=
  fun p e s m args below meth c H locs cells slots ls hj hr h1 h2 hl => lv_iload_n hj.1.1 hj.1.2.1 hd rfl (jat hl hi) (K p e s m args below meth c H locs cells slots ls hj hr h1 h2 hl)
theorem jr_iload {k : Nat} {x : Int32} (hd : decode cc pc = .ok (.iload k, 2)) (hi : lv[k]? = some (some (.int x))) (K : RR g own cc nL ret nm d kc ks rk rn (pc + 2) lv (.int x :: st) w Q) : RR g own cc nL ret nm d kc ks rk rn pc lv st w Q :=
  fun p e s m args below meth c H locs cells slots ls hj hr h1 h2 hl => lv_iload hj.1.1 hj.1.2.1 hd (jat hl hi) (K p e s m args below meth c H locs cells slots ls hj hr h1 h2 hl)
theorem jr_lload_n {k : Fin 4} {x : Int64} (hd : decode cc pc = .ok (.lload_n k, 1)) (hi : lv[(k : Nat)]? = some (some (.long x))) (K : RR g own cc nL ret nm d kc ks rk rn (pc + 1) lv (.long x :: st) w Q) : RR g own cc nL ret nm d kc ks rk rn pc lv st w Q :=
  fun p e s m args below meth c H locs cells slots ls hj hr h1 h2 hl => lv_lload_n hj.1.1 hj.1.2.1 hd rfl (jat hl hi) (K p e s m args below meth c H locs cells slots ls hj hr h1 h2 hl)
theorem jr_lload {k : Nat} {x : Int64} (hd : decode cc pc = .ok (.lload k, 2)) (hi : lv[k]? = some (some (.long x))) (K : RR g own cc nL ret nm d kc ks rk rn (pc + 2) lv (.long x :: st) w Q) : RR g own cc nL ret nm d kc ks rk rn pc lv st w Q :=
  fun p e s m args below meth c H locs cells slots ls hj hr h1 h2 hl => lv_lload hj.1.1 hj.1.2.1 hd (jat hl hi) (K p e s m args below meth c H locs cells slots ls hj hr h1 h2 hl)
theorem jr_aload_n {k : Fin 4} {x : Nat} (hd : decode cc pc = .ok (.aload_n k, 1)) (hi : lv[(k : Nat)]? = some (some (.ref x))) (K : RR g own cc nL ret nm d kc ks rk rn (pc + 1) lv (.ref x :: st) w Q) : RR g own cc nL ret nm d kc ks rk rn pc lv st w Q :=
  fun p e s m args below meth c H locs cells slots ls hj hr h1 h2 hl => lv_aload_n hj.1.1 hj.1.2.1 hd rfl (jat hl hi) (K p e s m args below meth c H locs cells slots ls hj hr h1 h2 hl)
theorem jr_aload {k : Nat} {x : Nat} (hd : decode cc pc = .ok (.aload k, 2)) (hi : lv[k]? = some (some (.ref x))) (K : RR g own cc nL ret nm d kc ks rk rn (pc + 2) lv (.ref x :: st) w Q) : RR g own cc nL ret nm d kc ks rk rn pc lv st w Q :=
  fun p e s m args below meth c H locs cells slots ls hj hr h1 h2 hl => lv_aload hj.1.1 hj.1.2.1 hd (jat hl hi) (K p e s m args below meth c H locs cells slots ls hj hr h1 h2 hl)
theorem jr_aloadN_n {k : Fin 4} (hd : decode cc pc = .ok (.aload_n k, 1)) (hi : lv[(k : Nat)]? = some (some .null)) (K : RR g own cc nL ret nm d kc ks rk rn (pc + 1) lv (.null :: st) w Q) : RR g own cc nL ret nm d kc ks rk rn pc lv st w Q :=
  fun p e s m args below meth c H locs cells slots ls hj hr h1 h2 hl => lv_aload_nN hj.1.1 hj.1.2.1 hd rfl (jat hl hi) (K p e s m args below meth c H locs cells slots ls hj hr h1 h2 hl)
theorem jr_istore_ng {k : Fin 4} {x : Int32} (hd : decode cc pc = .ok (.istore_n k, 1)) (hn : (k : Nat) < nL) (hc : ∀ q, q + 1 = (k : Nat) → jc1 (lv.getD q none) = true) (K : RR g own cc nL ret nm d kc ks rk rn (pc + 1) (lv.set (k : Nat) (some (.int x))) st w Q) : RR g own cc nL ret nm d kc ks rk rn pc lv (.int x :: st) w Q :=
  fun p e s m args below meth c H locs cells slots ls hj hr h1 h2 hl => lv_istore_n hj.1.1 hj.1.2.1 hd rfl hl hn rfl (fun ls' hl' => K p e s m args below meth c H locs cells slots ls' hj hr h1 h2 (jstore hc hl'))
theorem jr_istore_g {k : Nat} {x : Int32} (hd : decode cc pc = .ok (.istore k, 2)) (hn : k < nL) (hc : ∀ q, q + 1 = k → jc1 (lv.getD q none) = true) (K : RR g own cc nL ret nm d kc ks rk rn (pc + 2) (lv.set k (some (.int x))) st w Q) : RR g own cc nL ret nm d kc ks rk rn pc lv (.int x :: st) w Q :=
  fun p e s m args below meth c H locs cells slots ls hj hr h1 h2 hl => lv_istore hj.1.1 hj.1.2.1 hd hl hn rfl (fun ls' hl' => K p e s m args below meth c H locs cells slots ls' hj hr h1 h2 (jstore hc hl'))
theorem jr_astore_ng {k : Fin 4} {x : Nat} (hd : decode cc pc = .ok (.astore_n k, 1)) (hn : (k : Nat) < nL) (hc : ∀ q, q + 1 = (k : Nat) → jc1 (lv.getD q none) = true) (K : RR g own cc nL ret nm d kc ks rk rn (pc + 1) (lv.set (k : Nat) (some (.ref x))) st w Q) : RR g own cc nL ret nm d kc ks rk rn pc lv (.ref x :: st) w Q :=
  fun p e s m args below meth c H locs cells slots ls hj hr h1 h2 hl => lv_astore_n hj.1.1 hj.1.2.1 hd rfl hl hn rfl (fun ls' hl' => K p e s m args below meth c H locs cells slots ls' hj hr h1 h2 (jstore hc hl'))
theorem jr_astore_g {k : Nat} {x : Nat} (hd : decode cc pc = .ok (.astore k, 2)) (hn : k < nL) (hc : ∀ q, q + 1 = k → jc1 (lv.getD q none) = true) (K : RR g own cc nL ret nm d kc ks rk rn (pc + 2) (lv.set k (some (.ref x))) st w Q) : RR g own cc nL ret nm d kc ks rk rn pc lv (.ref x :: st) w Q :=
  fun p e s m args below meth c H locs cells slots ls hj hr h1 h2 hl => lv_astore hj.1.1 hj.1.2.1 hd hl hn rfl (fun ls' hl' => K p e s m args below meth c H locs cells slots ls' hj hr h1 h2 (jstore hc hl'))
theorem jr_astoreN_ng {k : Fin 4} (hd : decode cc pc = .ok (.astore_n k, 1)) (hn : (k : Nat) < nL) (hc : ∀ q, q + 1 = (k : Nat) → jc1 (lv.getD q none) = true) (K : RR g own cc nL ret nm d kc ks rk rn (pc + 1) (lv.set (k : Nat) (some .null)) st w Q) : RR g own cc nL ret nm d kc ks rk rn pc lv (.null :: st) w Q :=
  fun p e s m args below meth c H locs cells slots ls hj hr h1 h2 hl => lv_astore_nN hj.1.1 hj.1.2.1 hd rfl hl hn rfl (fun ls' hl' => K p e s m args below meth c H locs cells slots ls' hj hr h1 h2 (jstore hc hl'))
theorem jr_iinc_g {k : Nat} {n : Int} {x : Int32} (v : Int32) (hd : decode cc pc = .ok (.iinc k n, 3)) (hi : lv[k]? = some (some (.int x))) (hv : x + Int32.ofInt n = v) (hn : k < nL) (hc : ∀ q, q + 1 = k → jc1 (lv.getD q none) = true) (K : RR g own cc nL ret nm d kc ks rk rn (pc + 3) (lv.set k (some (.int v))) st w Q) : RR g own cc nL ret nm d kc ks rk rn pc lv st w Q := by
  intro p e s m args below meth c H locs cells slots ls hj hr h1 h2 hl
  obtain ⟨j, hj2⟩ := List.getElem?_of_mem (jasc_mem (n := 0) hi)
  rw [Nat.zero_add] at hj2
  exact lv_iinc hj.1.1 hj.1.2.1 hd hl hj2 hv hn rfl (fun ls' hl' => K p e s m args below meth c H locs cells slots ls' hj hr h1 h2 (jstore hc hl'))
theorem jr_istore_0 {x : Int32} {a0 : Option Value} {l : List (Option Value)} (hd : decode cc pc = .ok (.istore_n 0, 1)) (hn : 0 < nL) (K : RR g own cc nL ret nm d kc ks rk rn (pc + 1) (some (.int x) :: l) st w Q) : RR g own cc nL ret nm d kc ks rk rn pc (a0 :: l) (.int x :: st) w Q :=
  jr_istore_ng (k := (0 : Fin 4)) hd hn (fun q e => absurd e (Nat.succ_ne_zero q)) K
theorem jr_astore_0 {x : Nat} {a0 : Option Value} {l : List (Option Value)} (hd : decode cc pc = .ok (.astore_n 0, 1)) (hn : 0 < nL) (K : RR g own cc nL ret nm d kc ks rk rn (pc + 1) (some (.ref x) :: l) st w Q) : RR g own cc nL ret nm d kc ks rk rn pc (a0 :: l) (.ref x :: st) w Q :=
  jr_astore_ng (k := (0 : Fin 4)) hd hn (fun q e => absurd e (Nat.succ_ne_zero q)) K
theorem jr_astoreN_0 {a0 : Option Value} {l : List (Option Value)} (hd : decode cc pc = .ok (.astore_n 0, 1)) (hn : 0 < nL) (K : RR g own cc nL ret nm d kc ks rk rn (pc + 1) (some .null :: l) st w Q) : RR g own cc nL ret nm d kc ks rk rn pc (a0 :: l) (.null :: st) w Q :=
  jr_astoreN_ng (k := (0 : Fin 4)) hd hn (fun q e => absurd e (Nat.succ_ne_zero q)) K
theorem jr_iinc_0 {n : Int} {x : Int32} {l : List (Option Value)} (v : Int32) (hd : decode cc pc = .ok (.iinc 0 n, 3)) (hv : x + Int32.ofInt n = v) (hn : 0 < nL) (K : RR g own cc nL ret nm d kc ks rk rn (pc + 3) (some (.int v) :: l) st w Q) : RR g own cc nL ret nm d kc ks rk rn pc (some (.int x) :: l) st w Q :=
  jr_iinc_g (k := 0) v hd rfl hv hn (fun q e => absurd e (Nat.succ_ne_zero q)) K
theorem jr_istore_1 {x : Int32} {a0 a1 : Option Value} {l : List (Option Value)} (hd : decode cc pc = .ok (.istore_n 1, 1)) (hn : 1 < nL) (hc : jc1 a0 = true) (K : RR g own cc nL ret nm d kc ks rk rn (pc + 1) (a0 :: some (.int x) :: l) st w Q) : RR g own cc nL ret nm d kc ks rk rn pc (a0 :: a1 :: l) (.int x :: st) w Q :=
  jr_istore_ng (k := (1 : Fin 4)) hd hn (fun q e => by cases e; exact hc) K
theorem jr_astore_1 {x : Nat} {a0 a1 : Option Value} {l : List (Option Value)} (hd : decode cc pc = .ok (.astore_n 1, 1)) (hn : 1 < nL) (hc : jc1 a0 = true) (K : RR g own cc nL ret nm d kc ks rk rn (pc + 1) (a0 :: some (.ref x) :: l) st w Q) : RR g own cc nL ret nm d kc ks rk rn pc (a0 :: a1 :: l) (.ref x :: st) w Q :=
  jr_astore_ng (k := (1 : Fin 4)) hd hn (fun q e => by cases e; exact hc) K
theorem jr_astoreN_1 {a0 a1 : Option Value} {l : List (Option Value)} (hd : decode cc pc = .ok (.astore_n 1, 1)) (hn : 1 < nL) (hc : jc1 a0 = true) (K : RR g own cc nL ret nm d kc ks rk rn (pc + 1) (a0 :: some .null :: l) st w Q) : RR g own cc nL ret nm d kc ks rk rn pc (a0 :: a1 :: l) (.null :: st) w Q :=
  jr_astoreN_ng (k := (1 : Fin 4)) hd hn (fun q e => by cases e; exact hc) K
theorem jr_iinc_1 {n : Int} {x : Int32} {a0 : Option Value} {l : List (Option Value)} (v : Int32) (hd : decode cc pc = .ok (.iinc 1 n, 3)) (hv : x + Int32.ofInt n = v) (hn : 1 < nL) (hc : jc1 a0 = true) (K : RR g own cc nL ret nm d kc ks rk rn (pc + 3) (a0 :: some (.int v) :: l) st w Q) : RR g own cc nL ret nm d kc ks rk rn pc (a0 :: some (.int x) :: l) st w Q :=
  jr_iinc_g (k := 1) v hd rfl hv hn (fun q e => by cases e; exact hc) K
theorem jr_istore_2 {x : Int32} {a0 a1 a2 : Option Value} {l : List (Option Value)} (hd : decode cc pc = .ok (.istore_n 2, 1)) (hn : 2 < nL) (hc : jc1 a1 = true) (K : RR g own cc nL ret nm d kc ks rk rn (pc + 1) (a0 :: a1 :: some (.int x) :: l) st w Q) : RR g own cc nL ret nm d kc ks rk rn pc (a0 :: a1 :: a2 :: l) (.int x :: st) w Q :=
  jr_istore_ng (k := (2 : Fin 4)) hd hn (fun q e => by cases e; exact hc) K
theorem jr_astore_2 {x : Nat} {a0 a1 a2 : Option Value} {l : List (Option Value)} (hd : decode cc pc = .ok (.astore_n 2, 1)) (hn : 2 < nL) (hc : jc1 a1 = true) (K : RR g own cc nL ret nm d kc ks rk rn (pc + 1) (a0 :: a1 :: some (.ref x) :: l) st w Q) : RR g own cc nL ret nm d kc ks rk rn pc (a0 :: a1 :: a2 :: l) (.ref x :: st) w Q :=
  jr_astore_ng (k := (2 : Fin 4)) hd hn (fun q e => by cases e; exact hc) K
theorem jr_astoreN_2 {a0 a1 a2 : Option Value} {l : List (Option Value)} (hd : decode cc pc = .ok (.astore_n 2, 1)) (hn : 2 < nL) (hc : jc1 a1 = true) (K : RR g own cc nL ret nm d kc ks rk rn (pc + 1) (a0 :: a1 :: some .null :: l) st w Q) : RR g own cc nL ret nm d kc ks rk rn pc (a0 :: a1 :: a2 :: l) (.null :: st) w Q :=
  jr_astoreN_ng (k := (2 : Fin 4)) hd hn (fun q e => by cases e; exact hc) K
theorem jr_iinc_2 {n : Int} {x : Int32} {a0 a1 : Option Value} {l : List (Option Value)} (v : Int32) (hd : decode cc pc = .ok (.iinc 2 n, 3)) (hv : x + Int32.ofInt n = v) (hn : 2 < nL) (hc : jc1 a1 = true) (K : RR g own cc nL ret nm d kc ks rk rn (pc + 3) (a0 :: a1 :: some (.int v) :: l) st w Q) : RR g own cc nL ret nm d kc ks rk rn pc (a0 :: a1 :: some (.int x) :: l) st w Q :=
  jr_iinc_g (k := 2) v hd rfl hv hn (fun q e => by cases e; exact hc) K
theorem jr_istore_3 {x : Int32} {a0 a1 a2 a3 : Option Value} {l : List (Option Value)} (hd : decode cc pc = .ok (.istore_n 3, 1)) (hn : 3 < nL) (hc : jc1 a2 = true) (K : RR g own cc nL ret nm d kc ks rk rn (pc + 1) (a0 :: a1 :: a2 :: some (.int x) :: l) st w Q) : RR g own cc nL ret nm d kc ks rk rn pc (a0 :: a1 :: a2 :: a3 :: l) (.int x :: st) w Q :=
  jr_istore_ng (k := (3 : Fin 4)) hd hn (fun q e => by cases e; exact hc) K
theorem jr_astore_3 {x : Nat} {a0 a1 a2 a3 : Option Value} {l : List (Option Value)} (hd : decode cc pc = .ok (.astore_n 3, 1)) (hn : 3 < nL) (hc : jc1 a2 = true) (K : RR g own cc nL ret nm d kc ks rk rn (pc + 1) (a0 :: a1 :: a2 :: some (.ref x) :: l) st w Q) : RR g own cc nL ret nm d kc ks rk rn pc (a0 :: a1 :: a2 :: a3 :: l) (.ref x :: st) w Q :=
  jr_astore_ng (k := (3 : Fin 4)) hd hn (fun q e => by cases e; exact hc) K
theorem jr_astoreN_3 {a0 a1 a2 a3 : Option Value} {l : List (Option Value)} (hd : decode cc pc = .ok (.astore_n 3, 1)) (hn : 3 < nL) (hc : jc1 a2 = true) (K : RR g own cc nL ret nm d kc ks rk rn (pc + 1) (a0 :: a1 :: a2 :: some .null :: l) st w Q) : RR g own cc nL ret nm d kc ks rk rn pc (a0 :: a1 :: a2 :: a3 :: l) (.null :: st) w Q :=
  jr_astoreN_ng (k := (3 : Fin 4)) hd hn (fun q e => by cases e; exact hc) K
theorem jr_iinc_3 {n : Int} {x : Int32} {a0 a1 a2 : Option Value} {l : List (Option Value)} (v : Int32) (hd : decode cc pc = .ok (.iinc 3 n, 3)) (hv : x + Int32.ofInt n = v) (hn : 3 < nL) (hc : jc1 a2 = true) (K : RR g own cc nL ret nm d kc ks rk rn (pc + 3) (a0 :: a1 :: a2 :: some (.int v) :: l) st w Q) : RR g own cc nL ret nm d kc ks rk rn pc (a0 :: a1 :: a2 :: some (.int x) :: l) st w Q :=
  jr_iinc_g (k := 3) v hd rfl hv hn (fun q e => by cases e; exact hc) K
theorem jr_istore_4 {x : Int32} {a0 a1 a2 a3 a4 : Option Value} {l : List (Option Value)} (hd : decode cc pc = .ok (.istore 4, 2)) (hn : 4 < nL) (hc : jc1 a3 = true) (K : RR g own cc nL ret nm d kc ks rk rn (pc + 2) (a0 :: a1 :: a2 :: a3 :: some (.int x) :: l) st w Q) : RR g own cc nL ret nm d kc ks rk rn pc (a0 :: a1 :: a2 :: a3 :: a4 :: l) (.int x :: st) w Q :=
  jr_istore_g (k := 4) hd hn (fun q e => by cases e; exact hc) K
theorem jr_astore_4 {x : Nat} {a0 a1 a2 a3 a4 : Option Value} {l : List (Option Value)} (hd : decode cc pc = .ok (.astore 4, 2)) (hn : 4 < nL) (hc : jc1 a3 = true) (K : RR g own cc nL ret nm d kc ks rk rn (pc + 2) (a0 :: a1 :: a2 :: a3 :: some (.ref x) :: l) st w Q) : RR g own cc nL ret nm d kc ks rk rn pc (a0 :: a1 :: a2 :: a3 :: a4 :: l) (.ref x :: st) w Q :=
  jr_astore_g (k := 4) hd hn (fun q e => by cases e; exact hc) K
theorem jr_iinc_4 {n : Int} {x : Int32} {a0 a1 a2 a3 : Option Value} {l : List (Option Value)} (v : Int32) (hd : decode cc pc = .ok (.iinc 4 n, 3)) (hv : x + Int32.ofInt n = v) (hn : 4 < nL) (hc : jc1 a3 = true) (K : RR g own cc nL ret nm d kc ks rk rn (pc + 3) (a0 :: a1 :: a2 :: a3 :: some (.int v) :: l) st w Q) : RR g own cc nL ret nm d kc ks rk rn pc (a0 :: a1 :: a2 :: a3 :: some (.int x) :: l) st w Q :=
  jr_iinc_g (k := 4) v hd rfl hv hn (fun q e => by cases e; exact hc) K
theorem jr_istore_5 {x : Int32} {a0 a1 a2 a3 a4 a5 : Option Value} {l : List (Option Value)} (hd : decode cc pc = .ok (.istore 5, 2)) (hn : 5 < nL) (hc : jc1 a4 = true) (K : RR g own cc nL ret nm d kc ks rk rn (pc + 2) (a0 :: a1 :: a2 :: a3 :: a4 :: some (.int x) :: l) st w Q) : RR g own cc nL ret nm d kc ks rk rn pc (a0 :: a1 :: a2 :: a3 :: a4 :: a5 :: l) (.int x :: st) w Q :=
  jr_istore_g (k := 5) hd hn (fun q e => by cases e; exact hc) K
theorem jr_astore_5 {x : Nat} {a0 a1 a2 a3 a4 a5 : Option Value} {l : List (Option Value)} (hd : decode cc pc = .ok (.astore 5, 2)) (hn : 5 < nL) (hc : jc1 a4 = true) (K : RR g own cc nL ret nm d kc ks rk rn (pc + 2) (a0 :: a1 :: a2 :: a3 :: a4 :: some (.ref x) :: l) st w Q) : RR g own cc nL ret nm d kc ks rk rn pc (a0 :: a1 :: a2 :: a3 :: a4 :: a5 :: l) (.ref x :: st) w Q :=
  jr_astore_g (k := 5) hd hn (fun q e => by cases e; exact hc) K
theorem jr_iinc_5 {n : Int} {x : Int32} {a0 a1 a2 a3 a4 : Option Value} {l : List (Option Value)} (v : Int32) (hd : decode cc pc = .ok (.iinc 5 n, 3)) (hv : x + Int32.ofInt n = v) (hn : 5 < nL) (hc : jc1 a4 = true) (K : RR g own cc nL ret nm d kc ks rk rn (pc + 3) (a0 :: a1 :: a2 :: a3 :: a4 :: some (.int v) :: l) st w Q) : RR g own cc nL ret nm d kc ks rk rn pc (a0 :: a1 :: a2 :: a3 :: a4 :: some (.int x) :: l) st w Q :=
  jr_iinc_g (k := 5) v hd rfl hv hn (fun q e => by cases e; exact hc) K
theorem jr_istore_6 {x : Int32} {a0 a1 a2 a3 a4 a5 a6 : Option Value} {l : List (Option Value)} (hd : decode cc pc = .ok (.istore 6, 2)) (hn : 6 < nL) (hc : jc1 a5 = true) (K : RR g own cc nL ret nm d kc ks rk rn (pc + 2) (a0 :: a1 :: a2 :: a3 :: a4 :: a5 :: some (.int x) :: l) st w Q) : RR g own cc nL ret nm d kc ks rk rn pc (a0 :: a1 :: a2 :: a3 :: a4 :: a5 :: a6 :: l) (.int x :: st) w Q :=
  jr_istore_g (k := 6) hd hn (fun q e => by cases e; exact hc) K
theorem jr_astore_6 {x : Nat} {a0 a1 a2 a3 a4 a5 a6 : Option Value} {l : List (Option Value)} (hd : decode cc pc = .ok (.astore 6, 2)) (hn : 6 < nL) (hc : jc1 a5 = true) (K : RR g own cc nL ret nm d kc ks rk rn (pc + 2) (a0 :: a1 :: a2 :: a3 :: a4 :: a5 :: some (.ref x) :: l) st w Q) : RR g own cc nL ret nm d kc ks rk rn pc (a0 :: a1 :: a2 :: a3 :: a4 :: a5 :: a6 :: l) (.ref x :: st) w Q :=
  jr_astore_g (k := 6) hd hn (fun q e => by cases e; exact hc) K
theorem jr_iinc_6 {n : Int} {x : Int32} {a0 a1 a2 a3 a4 a5 : Option Value} {l : List (Option Value)} (v : Int32) (hd : decode cc pc = .ok (.iinc 6 n, 3)) (hv : x + Int32.ofInt n = v) (hn : 6 < nL) (hc : jc1 a5 = true) (K : RR g own cc nL ret nm d kc ks rk rn (pc + 3) (a0 :: a1 :: a2 :: a3 :: a4 :: a5 :: some (.int v) :: l) st w Q) : RR g own cc nL ret nm d kc ks rk rn pc (a0 :: a1 :: a2 :: a3 :: a4 :: a5 :: some (.int x) :: l) st w Q :=
  jr_iinc_g (k := 6) v hd rfl hv hn (fun q e => by cases e; exact hc) K
theorem jr_istore_7 {x : Int32} {a0 a1 a2 a3 a4 a5 a6 a7 : Option Value} {l : List (Option Value)} (hd : decode cc pc = .ok (.istore 7, 2)) (hn : 7 < nL) (hc : jc1 a6 = true) (K : RR g own cc nL ret nm d kc ks rk rn (pc + 2) (a0 :: a1 :: a2 :: a3 :: a4 :: a5 :: a6 :: some (.int x) :: l) st w Q) : RR g own cc nL ret nm d kc ks rk rn pc (a0 :: a1 :: a2 :: a3 :: a4 :: a5 :: a6 :: a7 :: l) (.int x :: st) w Q :=
  jr_istore_g (k := 7) hd hn (fun q e => by cases e; exact hc) K
theorem jr_astore_7 {x : Nat} {a0 a1 a2 a3 a4 a5 a6 a7 : Option Value} {l : List (Option Value)} (hd : decode cc pc = .ok (.astore 7, 2)) (hn : 7 < nL) (hc : jc1 a6 = true) (K : RR g own cc nL ret nm d kc ks rk rn (pc + 2) (a0 :: a1 :: a2 :: a3 :: a4 :: a5 :: a6 :: some (.ref x) :: l) st w Q) : RR g own cc nL ret nm d kc ks rk rn pc (a0 :: a1 :: a2 :: a3 :: a4 :: a5 :: a6 :: a7 :: l) (.ref x :: st) w Q :=
  jr_astore_g (k := 7) hd hn (fun q e => by cases e; exact hc) K
theorem jr_iinc_7 {n : Int} {x : Int32} {a0 a1 a2 a3 a4 a5 a6 : Option Value} {l : List (Option Value)} (v : Int32) (hd : decode cc pc = .ok (.iinc 7 n, 3)) (hv : x + Int32.ofInt n = v) (hn : 7 < nL) (hc : jc1 a6 = true) (K : RR g own cc nL ret nm d kc ks rk rn (pc + 3) (a0 :: a1 :: a2 :: a3 :: a4 :: a5 :: a6 :: some (.int v) :: l) st w Q) : RR g own cc nL ret nm d kc ks rk rn pc (a0 :: a1 :: a2 :: a3 :: a4 :: a5 :: a6 :: some (.int x) :: l) st w Q :=
  jr_iinc_g (k := 7) v hd rfl hv hn (fun q e => by cases e; exact hc) K
theorem jr_istore_8 {x : Int32} {a0 a1 a2 a3 a4 a5 a6 a7 a8 : Option Value} {l : List (Option Value)} (hd : decode cc pc = .ok (.istore 8, 2)) (hn : 8 < nL) (hc : jc1 a7 = true) (K : RR g own cc nL ret nm d kc ks rk rn (pc + 2) (a0 :: a1 :: a2 :: a3 :: a4 :: a5 :: a6 :: a7 :: some (.int x) :: l) st w Q) : RR g own cc nL ret nm d kc ks rk rn pc (a0 :: a1 :: a2 :: a3 :: a4 :: a5 :: a6 :: a7 :: a8 :: l) (.int x :: st) w Q :=
  jr_istore_g (k := 8) hd hn (fun q e => by cases e; exact hc) K
theorem jr_astore_8 {x : Nat} {a0 a1 a2 a3 a4 a5 a6 a7 a8 : Option Value} {l : List (Option Value)} (hd : decode cc pc = .ok (.astore 8, 2)) (hn : 8 < nL) (hc : jc1 a7 = true) (K : RR g own cc nL ret nm d kc ks rk rn (pc + 2) (a0 :: a1 :: a2 :: a3 :: a4 :: a5 :: a6 :: a7 :: some (.ref x) :: l) st w Q) : RR g own cc nL ret nm d kc ks rk rn pc (a0 :: a1 :: a2 :: a3 :: a4 :: a5 :: a6 :: a7 :: a8 :: l) (.ref x :: st) w Q :=
  jr_astore_g (k := 8) hd hn (fun q e => by cases e; exact hc) K
theorem jr_iinc_8 {n : Int} {x : Int32} {a0 a1 a2 a3 a4 a5 a6 a7 : Option Value} {l : List (Option Value)} (v : Int32) (hd : decode cc pc = .ok (.iinc 8 n, 3)) (hv : x + Int32.ofInt n = v) (hn : 8 < nL) (hc : jc1 a7 = true) (K : RR g own cc nL ret nm d kc ks rk rn (pc + 3) (a0 :: a1 :: a2 :: a3 :: a4 :: a5 :: a6 :: a7 :: some (.int v) :: l) st w Q) : RR g own cc nL ret nm d kc ks rk rn pc (a0 :: a1 :: a2 :: a3 :: a4 :: a5 :: a6 :: a7 :: some (.int x) :: l) st w Q :=
  jr_iinc_g (k := 8) v hd rfl hv hn (fun q e => by cases e; exact hc) K
theorem jr_istore_9 {x : Int32} {a0 a1 a2 a3 a4 a5 a6 a7 a8 a9 : Option Value} {l : List (Option Value)} (hd : decode cc pc = .ok (.istore 9, 2)) (hn : 9 < nL) (hc : jc1 a8 = true) (K : RR g own cc nL ret nm d kc ks rk rn (pc + 2) (a0 :: a1 :: a2 :: a3 :: a4 :: a5 :: a6 :: a7 :: a8 :: some (.int x) :: l) st w Q) : RR g own cc nL ret nm d kc ks rk rn pc (a0 :: a1 :: a2 :: a3 :: a4 :: a5 :: a6 :: a7 :: a8 :: a9 :: l) (.int x :: st) w Q :=
  jr_istore_g (k := 9) hd hn (fun q e => by cases e; exact hc) K
theorem jr_astore_9 {x : Nat} {a0 a1 a2 a3 a4 a5 a6 a7 a8 a9 : Option Value} {l : List (Option Value)} (hd : decode cc pc = .ok (.astore 9, 2)) (hn : 9 < nL) (hc : jc1 a8 = true) (K : RR g own cc nL ret nm d kc ks rk rn (pc + 2) (a0 :: a1 :: a2 :: a3 :: a4 :: a5 :: a6 :: a7 :: a8 :: some (.ref x) :: l) st w Q) : RR g own cc nL ret nm d kc ks rk rn pc (a0 :: a1 :: a2 :: a3 :: a4 :: a5 :: a6 :: a7 :: a8 :: a9 :: l) (.ref x :: st) w Q :=
  jr_astore_g (k := 9) hd hn (fun q e => by cases e; exact hc) K
theorem jr_iinc_9 {n : Int} {x : Int32} {a0 a1 a2 a3 a4 a5 a6 a7 a8 : Option Value} {l : List (Option Value)} (v : Int32) (hd : decode cc pc = .ok (.iinc 9 n, 3)) (hv : x + Int32.ofInt n = v) (hn : 9 < nL) (hc : jc1 a8 = true) (K : RR g own cc nL ret nm d kc ks rk rn (pc + 3) (a0 :: a1 :: a2 :: a3 :: a4 :: a5 :: a6 :: a7 :: a8 :: some (.int v) :: l) st w Q) : RR g own cc nL ret nm d kc ks rk rn pc (a0 :: a1 :: a2 :: a3 :: a4 :: a5 :: a6 :: a7 :: a8 :: some (.int x) :: l) st w Q :=
  jr_iinc_g (k := 9) v hd rfl hv hn (fun q e => by cases e; exact hc) K
theorem jr_if_eq {x : Int32} {off : Int} (tgt : Nat) (hd : decode cc pc = .ok (.ifCond .eq off, 3)) (ht : (pc : Int) + off = (tgt : Int)) (KT : x = 0 → RR g own cc nL ret nm d kc ks rk rn tgt lv st w Q) (KF : ¬ x = 0 → RR g own cc nL ret nm d kc ks rk rn (pc + 3) lv st w Q) : RR g own cc nL ret nm d kc ks rk rn pc lv (.int x :: st) w Q :=
  fun p e s m args below meth c H locs cells slots ls hj hr h1 h2 hl => lv_if_eq hj.1.1 hj.1.2.1 hd ht (fun q => KT q p e s m args below meth c H locs cells slots ls hj hr h1 h2 hl) (fun q => KF q p e s m args below meth c H locs cells slots ls hj hr h1 h2 hl)
theorem jr_icmp_eq {x y : Int32} {off : Int} (tgt : Nat) (hd : decode cc pc = .ok (.if_icmp .eq off, 3)) (ht : (pc : Int) + off = (tgt : Int)) (KT : x = y → RR g own cc nL ret nm d kc ks rk rn tgt lv st w Q) (KF : ¬ x = y → RR g own cc nL ret nm d kc ks rk rn (pc + 3) lv st w Q) : RR g own cc nL ret nm d kc ks rk rn pc lv (.int y :: .int x :: st) w Q :=
  fun p e s m args below meth c H locs cells slots ls hj hr h1 h2 hl => lv_icmp_eq hj.1.1 hj.1.2.1 hd ht (fun q => KT q p e s m args below meth c H locs cells slots ls hj hr h1 h2 hl) (fun q => KF q p e s m args below meth c H locs cells slots ls hj hr h1 h2 hl)
theorem jr_if_ne {x : Int32} {off : Int} (tgt : Nat) (hd : decode cc pc = .ok (.ifCond .ne off, 3)) (ht : (pc : Int) + off = (tgt : Int)) (KT : ¬ x = 0 → RR g own cc nL ret nm d kc ks rk rn tgt lv st w Q) (KF : x = 0 → RR g own cc nL ret nm d kc ks rk rn (pc + 3) lv st w Q) : RR g own cc nL ret nm d kc ks rk rn pc lv (.int x :: st) w Q :=
  fun p e s m args below meth c H locs cells slots ls hj hr h1 h2 hl => lv_if_ne hj.1.1 hj.1.2.1 hd ht (fun q => KT q p e s m args below meth c H locs cells slots ls hj hr h1 h2 hl) (fun q => KF q p e s m args below meth c H locs cells slots ls hj hr h1 h2 hl)
theorem jr_icmp_ne {x y : Int32} {off : Int} (tgt : Nat) (hd : decode cc pc = .ok (.if_icmp .ne off, 3)) (ht : (pc : Int) + off = (tgt : Int)) (KT : ¬ x = y → RR g own cc nL ret nm d kc ks rk rn tgt lv st w Q) (KF : x = y → RR g own cc nL ret nm d kc ks rk rn (pc + 3) lv st w Q) : RR g own cc nL ret nm d kc ks rk rn pc lv (.int y :: .int x :: st) w Q :=
  fun p e s m args below meth c H locs cells slots ls hj hr h1 h2 hl => lv_icmp_ne hj.1.1 hj.1.2.1 hd ht (fun q => KT q p e s m args below meth c H locs cells slots ls hj hr h1 h2 hl) (fun q => KF q p e s m args below meth c H locs cells slots ls hj hr h1 h2 hl)
theorem jr_if_lt {x : Int32} {off : Int} (tgt : Nat) (hd : decode cc pc = .ok (.ifCond .lt off, 3)) (ht : (pc : Int) + off = (tgt : Int)) (KT : x < 0 → RR g own cc nL ret nm d kc ks rk rn tgt lv st w Q) (KF : ¬ x < 0 → RR g own cc nL ret nm d kc ks rk rn (pc + 3) lv st w Q) : RR g own cc nL ret nm d kc ks rk rn pc lv (.int x :: st) w Q :=
  fun p e s m args below meth c H locs cells slots ls hj hr h1 h2 hl => lv_if_lt hj.1.1 hj.1.2.1 hd ht (fun q => KT q p e s m args below meth c H locs cells slots ls hj hr h1 h2 hl) (fun q => KF q p e s m args below meth c H locs cells slots ls hj hr h1 h2 hl)
theorem jr_icmp_lt {x y : Int32} {off : Int} (tgt : Nat) (hd : decode cc pc = .ok (.if_icmp .lt off, 3)) (ht : (pc : Int) + off = (tgt : Int)) (KT : x < y → RR g own cc nL ret nm d kc ks rk rn tgt lv st w Q) (KF : ¬ x < y → RR g own cc nL ret nm d kc ks rk rn (pc + 3) lv st w Q) : RR g own cc nL ret nm d kc ks rk rn pc lv (.int y :: .int x :: st) w Q :=
  fun p e s m args below meth c H locs cells slots ls hj hr h1 h2 hl => lv_icmp_lt hj.1.1 hj.1.2.1 hd ht (fun q => KT q p e s m args below meth c H locs cells slots ls hj hr h1 h2 hl) (fun q => KF q p e s m args below meth c H locs cells slots ls hj hr h1 h2 hl)
theorem jr_if_ge {x : Int32} {off : Int} (tgt : Nat) (hd : decode cc pc = .ok (.ifCond .ge off, 3)) (ht : (pc : Int) + off = (tgt : Int)) (KT : 0 ≤ x → RR g own cc nL ret nm d kc ks rk rn tgt lv st w Q) (KF : ¬ 0 ≤ x → RR g own cc nL ret nm d kc ks rk rn (pc + 3) lv st w Q) : RR g own cc nL ret nm d kc ks rk rn pc lv (.int x :: st) w Q :=
  fun p e s m args below meth c H locs cells slots ls hj hr h1 h2 hl => lv_if_ge hj.1.1 hj.1.2.1 hd ht (fun q => KT q p e s m args below meth c H locs cells slots ls hj hr h1 h2 hl) (fun q => KF q p e s m args below meth c H locs cells slots ls hj hr h1 h2 hl)
theorem jr_icmp_ge {x y : Int32} {off : Int} (tgt : Nat) (hd : decode cc pc = .ok (.if_icmp .ge off, 3)) (ht : (pc : Int) + off = (tgt : Int)) (KT : y ≤ x → RR g own cc nL ret nm d kc ks rk rn tgt lv st w Q) (KF : ¬ y ≤ x → RR g own cc nL ret nm d kc ks rk rn (pc + 3) lv st w Q) : RR g own cc nL ret nm d kc ks rk rn pc lv (.int y :: .int x :: st) w Q :=
  fun p e s m args below meth c H locs cells slots ls hj hr h1 h2 hl => lv_icmp_ge hj.1.1 hj.1.2.1 hd ht (fun q => KT q p e s m args below meth c H locs cells slots ls hj hr h1 h2 hl) (fun q => KF q p e s m args below meth c H locs cells slots ls hj hr h1 h2 hl)
theorem jr_if_gt {x : Int32} {off : Int} (tgt : Nat) (hd : decode cc pc = .ok (.ifCond .gt off, 3)) (ht : (pc : Int) + off = (tgt : Int)) (KT : 0 < x → RR g own cc nL ret nm d kc ks rk rn tgt lv st w Q) (KF : ¬ 0 < x → RR g own cc nL ret nm d kc ks rk rn (pc + 3) lv st w Q) : RR g own cc nL ret nm d kc ks rk rn pc lv (.int x :: st) w Q :=
  fun p e s m args below meth c H locs cells slots ls hj hr h1 h2 hl => lv_if_gt hj.1.1 hj.1.2.1 hd ht (fun q => KT q p e s m args below meth c H locs cells slots ls hj hr h1 h2 hl) (fun q => KF q p e s m args below meth c H locs cells slots ls hj hr h1 h2 hl)
theorem jr_icmp_gt {x y : Int32} {off : Int} (tgt : Nat) (hd : decode cc pc = .ok (.if_icmp .gt off, 3)) (ht : (pc : Int) + off = (tgt : Int)) (KT : y < x → RR g own cc nL ret nm d kc ks rk rn tgt lv st w Q) (KF : ¬ y < x → RR g own cc nL ret nm d kc ks rk rn (pc + 3) lv st w Q) : RR g own cc nL ret nm d kc ks rk rn pc lv (.int y :: .int x :: st) w Q :=
  fun p e s m args below meth c H locs cells slots ls hj hr h1 h2 hl => lv_icmp_gt hj.1.1 hj.1.2.1 hd ht (fun q => KT q p e s m args below meth c H locs cells slots ls hj hr h1 h2 hl) (fun q => KF q p e s m args below meth c H locs cells slots ls hj hr h1 h2 hl)
theorem jr_if_le {x : Int32} {off : Int} (tgt : Nat) (hd : decode cc pc = .ok (.ifCond .le off, 3)) (ht : (pc : Int) + off = (tgt : Int)) (KT : x ≤ 0 → RR g own cc nL ret nm d kc ks rk rn tgt lv st w Q) (KF : ¬ x ≤ 0 → RR g own cc nL ret nm d kc ks rk rn (pc + 3) lv st w Q) : RR g own cc nL ret nm d kc ks rk rn pc lv (.int x :: st) w Q :=
  fun p e s m args below meth c H locs cells slots ls hj hr h1 h2 hl => lv_if_le hj.1.1 hj.1.2.1 hd ht (fun q => KT q p e s m args below meth c H locs cells slots ls hj hr h1 h2 hl) (fun q => KF q p e s m args below meth c H locs cells slots ls hj hr h1 h2 hl)
theorem jr_icmp_le {x y : Int32} {off : Int} (tgt : Nat) (hd : decode cc pc = .ok (.if_icmp .le off, 3)) (ht : (pc : Int) + off = (tgt : Int)) (KT : x ≤ y → RR g own cc nL ret nm d kc ks rk rn tgt lv st w Q) (KF : ¬ x ≤ y → RR g own cc nL ret nm d kc ks rk rn (pc + 3) lv st w Q) : RR g own cc nL ret nm d kc ks rk rn pc lv (.int y :: .int x :: st) w Q :=
  fun p e s m args below meth c H locs cells slots ls hj hr h1 h2 hl => lv_icmp_le hj.1.1 hj.1.2.1 hd ht (fun q => KT q p e s m args below meth c H locs cells slots ls hj hr h1 h2 hl) (fun q => KF q p e s m args below meth c H locs cells slots ls hj hr h1 h2 hl)
theorem jr_goto {off : Int} (tgt : Nat) (hd : decode cc pc = .ok (.goto off, 3)) (ht : (pc : Int) + off = (tgt : Int)) (K : RR g own cc nL ret nm d kc ks rk rn tgt lv st w Q) : RR g own cc nL ret nm d kc ks rk rn pc lv st w Q :=
  fun p e s m args below meth c H locs cells slots ls hj hr h1 h2 hl => lv_goto hj.1.1 hj.1.2.1 hd ht (K p e s m args below meth c H locs cells slots ls hj hr h1 h2 hl)
theorem jr_ifnull {x : Nat} {off : Int} (hd : decode cc pc = .ok (.ifnull off, 3)) (K : RR g own cc nL ret nm d kc ks rk rn (pc + 3) lv st w Q) : RR g own cc nL ret nm d kc ks rk rn pc lv (.ref x :: st) w Q :=
  fun p e s m args below meth c H locs cells slots ls hj hr h1 h2 hl => lv_ifnull hj.1.1 hj.1.2.1 hd (K p e s m args below meth c H locs cells slots ls hj hr h1 h2 hl)
theorem jr_ifnullN {off : Int} (tgt : Nat) (hd : decode cc pc = .ok (.ifnull off, 3)) (ht : (pc : Int) + off = (tgt : Int)) (K : RR g own cc nL ret nm d kc ks rk rn tgt lv st w Q) : RR g own cc nL ret nm d kc ks rk rn pc lv (.null :: st) w Q :=
  fun p e s m args below meth c H locs cells slots ls hj hr h1 h2 hl => lv_ifnullN hj.1.1 hj.1.2.1 hd ht (K p e s m args below meth c H locs cells slots ls hj hr h1 h2 hl)
theorem jr_ifnonnull {x : Nat} {off : Int} (tgt : Nat) (hd : decode cc pc = .ok (.ifnonnull off, 3)) (ht : (pc : Int) + off = (tgt : Int)) (K : RR g own cc nL ret nm d kc ks rk rn tgt lv st w Q) : RR g own cc nL ret nm d kc ks rk rn pc lv (.ref x :: st) w Q :=
  fun p e s m args below meth c H locs cells slots ls hj hr h1 h2 hl => lv_ifnonnull hj.1.1 hj.1.2.1 hd ht (K p e s m args below meth c H locs cells slots ls hj hr h1 h2 hl)
theorem jr_ifnonnullN {off : Int} (hd : decode cc pc = .ok (.ifnonnull off, 3)) (K : RR g own cc nL ret nm d kc ks rk rn (pc + 3) lv st w Q) : RR g own cc nL ret nm d kc ks rk rn pc lv (.null :: st) w Q :=
  fun p e s m args below meth c H locs cells slots ls hj hr h1 h2 hl => lv_ifnonnullN hj.1.1 hj.1.2.1 hd (K p e s m args below meth c H locs cells slots ls hj hr h1 h2 hl)
theorem jr_tableIn {dflt lo hi : Int} {offs : Array Int} {len : Nat} {x : Int32} {off : Int} (tgt : Nat) (hd : decode cc pc = .ok (.tableswitch dflt lo hi offs, len)) (q1 : ¬ x.toInt < lo) (q2 : ¬ hi < x.toInt) (ho : offs[(x.toInt - lo).toNat]? = some off) (ht : (pc : Int) + off = (tgt : Int)) (K : RR g own cc nL ret nm d kc ks rk rn tgt lv st w Q) : RR g own cc nL ret nm d kc ks rk rn pc lv (.int x :: st) w Q :=
  fun p e s m args below meth c H locs cells slots ls hj hr h1 h2 hl => lv_tableIn hj.1.1 hj.1.2.1 hd q1 q2 ho ht (K p e s m args below meth c H locs cells slots ls hj hr h1 h2 hl)
theorem jr_tableOut {dflt lo hi : Int} {offs : Array Int} {len : Nat} {x : Int32} (tgt : Nat) (hd : decode cc pc = .ok (.tableswitch dflt lo hi offs, len)) (q : x.toInt < lo ∨ hi < x.toInt) (ht : (pc : Int) + dflt = (tgt : Int)) (K : RR g own cc nL ret nm d kc ks rk rn tgt lv st w Q) : RR g own cc nL ret nm d kc ks rk rn pc lv (.int x :: st) w Q :=
  fun p e s m args below meth c H locs cells slots ls hj hr h1 h2 hl => lv_tableOut hj.1.1 hj.1.2.1 hd q ht (K p e s m args below meth c H locs cells slots ls hj hr h1 h2 hl)
theorem jr_lookup {dflt : Int} {ps : Array (Int × Int)} {len : Nat} {x : Int32} {off : Int} (tgt : Nat) (hd : decode cc pc = .ok (.lookupswitch dflt ps, len)) (hp : (ps.toList.zip (ps.toList.drop 1)).all (fun (a, next) => a.1 < next.1) = true) (ho : Op.lookupswitch.offset ps.toList dflt x.toInt = off) (ht : (pc : Int) + off = (tgt : Int)) (K : RR g own cc nL ret nm d kc ks rk rn tgt lv st w Q) : RR g own cc nL ret nm d kc ks rk rn pc lv (.int x :: st) w Q :=
  fun p e s m args below meth c H locs cells slots ls hj hr h1 h2 hl => lv_lookup hj.1.1 hj.1.2.1 hd hp ho ht (K p e s m args below meth c H locs cells slots ls hj hr h1 h2 hl)
theorem jr_ldc {idx : Nat} (v : Int32) (hw : Cond.constant own idx v ∈ kw) (hd : decode cc pc = .ok (.ldc idx, 2)) (K : RR g own cc nL ret nm d kc ks rk rn (pc + 2) lv (.int v :: st) w Q) : RR g own cc nL ret nm d kc ks rk rn pc lv st w Q :=
  fun p e s m args below meth c H locs cells slots ls hj hr h1 h2 hl => lv_ldc hj.1.1 hj.1.2.1 hj.1.2.2.2.1 (hj.1.2.2.2.2 _ hw) hd (K p e s m args below meth c H locs cells slots ls hj hr h1 h2 hl)
theorem jr_ldcw {idx : Nat} (v : Int32) (hw : Cond.constant own idx v ∈ kw) (hd : decode cc pc = .ok (.ldc_w idx, 3)) (K : RR g own cc nL ret nm d kc ks rk rn (pc + 3) lv (.int v :: st) w Q) : RR g own cc nL ret nm d kc ks rk rn pc lv st w Q :=
  fun p e s m args below meth c H locs cells slots ls hj hr h1 h2 hl => lv_ldcw hj.1.1 hj.1.2.1 hj.1.2.2.2.1 (hj.1.2.2.2.2 _ hw) hd (K p e s m args below meth c H locs cells slots ls hj hr h1 h2 hl)
theorem jr_ldc2 {idx : Nat} (v : Int64) (hw : Cond.constantLong own idx v ∈ kw) (hd : decode cc pc = .ok (.ldc2_w idx, 3)) (K : RR g own cc nL ret nm d kc ks rk rn (pc + 3) lv (.long v :: st) w Q) : RR g own cc nL ret nm d kc ks rk rn pc lv st w Q :=
  fun p e s m args below meth c H locs cells slots ls hj hr h1 h2 hl => lv_ldc2 hj.1.1 hj.1.2.1 hj.1.2.2.2.1 (hj.1.2.2.2.2 _ hw) hd (K p e s m args below meth c H locs cells slots ls hj hr h1 h2 hl)
-- ends
theorem jr_iret {x : Int32} (hret : ret = some .int) (hd : decode cc pc = .ok (.ireturn, 1)) (K : Q (some (.int x)) w) : RR g own cc nL ret nm d kc ks rk rn pc lv [.int x] w Q := by
  intro p e s m args below meth c H locs cells slots ls hj hr h1 h2 hl
  refine W.widen (k := kc) (n := ks) (by omega) (by omega) ?_
  exact W.iret hj.1.1 hj.1.2.1 (hj.2.1.trans hret) (fun t ht hW => ⟨⟨_, w, rfl, K, by rw [ht]; exact hr.1, by rw [ht]; exact hr.2.1⟩, hr.2.2.F ht⟩) (fun q hq => hr.2.2.2.2 q hq) hd hj.2.2.1
theorem jr_zret {x : Int32} {ty : FieldType} (hret : ret = some ty) (hn : narrow ty (.int x) = .int x) (hd : decode cc pc = .ok (.ireturn, 1)) (K : Q (some (.int x)) w) : RR g own cc nL ret nm d kc ks rk rn pc lv [.int x] w Q := by
  intro p e s m args below meth c H locs cells slots ls hj hr h1 h2 hl
  refine W.widen (k := kc) (n := ks) (by omega) (by omega) ?_
  exact W.zret hj.1.1 hj.1.2.1 (hj.2.1.trans hret) hn (fun t ht hW => ⟨⟨_, w, rfl, K, by rw [ht]; exact hr.1, by rw [ht]; exact hr.2.1⟩, hr.2.2.F ht⟩) (fun q hq => hr.2.2.2.2 q hq) hd hj.2.2.1
theorem jr_vret (hret : ret = none) (hd : decode cc pc = .ok (.return_, 1)) (K : Q none w) : RR g own cc nL ret nm d kc ks rk rn pc lv [] w Q := by
  intro p e s m args below meth c H locs cells slots ls hj hr h1 h2 hl
  refine W.widen (k := kc) (n := ks) (by omega) (by omega) ?_
  exact W.vret hj.1.1 hj.1.2.1 (hj.2.1.trans hret) (fun t ht hW => ⟨⟨_, w, rfl, K, by rw [ht]; exact hr.1, by rw [ht]; exact hr.2.1⟩, hr.2.2.F ht⟩) (fun q hq => hr.2.2.2.2 q hq) hd hj.2.2.1
theorem jr_aret {v : Value} {rt : FieldType} (hret : ret = some rt) (hrt : (∃ n, rt = .object n) ∨ ∃ t, rt = .array t) (hv : v = .null ∨ ∃ a, v = .ref a) (hd : decode cc pc = .ok (.areturn, 1)) (K : Q (some v) w) : RR g own cc nL ret nm d kc ks rk rn pc lv [v] w Q := by
  intro p e s m args below meth c H locs cells slots ls hj hr h1 h2 hl
  refine W.widen (k := kc) (n := ks) (by omega) (by omega) ?_
  exact W.aret hj.1.1 hj.1.2.1 (hj.2.1.trans hret) hrt hv (fun t ht hW => ⟨⟨_, w, rfl, K, by rw [ht]; exact hr.1, by rw [ht]; exact hr.2.1⟩, hr.2.2.F ht⟩) (fun q hq => hr.2.2.2.2 q hq) hd hj.2.2.1
-- fields
theorem jr_get {ci k idx a : Nat} {C ref : String} {T : u_T} {N : Nat} {v : Value} (hlk : Cond.fieldLink own idx ref (T k).2.1 (T k).2.2.1 ∈ kw) (hu : ∀ w ∈ u_ws C T N, w ∈ kw) (hc : kcl[ci]? = some (C, T, N)) (hci : ci < 10) (hk : k < N) (href : (T k).1 = ref)
    (hs : jK w a ci 0) (hv : (jfs ci (wI w a) (fun k => jrf g (wF w a k)))[k]? = some v) (hd : decode cc pc = .ok (.getfield idx, 3)) (K : RR g own cc nL ret nm d kc ks rk rn (pc + 3) lv (v :: st) w Q) : RR g own cc nL ret nm d kc ks rk rn pc lv (.ref (gb g + a) :: st) w Q := by
  intro p e s m args below meth c H locs cells slots ls hj hr h1 h2 hl
  have he : (wl g w)[a]? = some (gb g + a, .inr (ci, jfs ci (wI w a) (fun k => jrf g (wF w a k)))) := by rw [wl_at g w hs.1, cE_obj hs hci]
  subst href
  exact va_get hj.1.1 hj.1.2.1 hj.1.2.2.2.2 hu hj.1.2.2.2.1 hj.2.2.2.2.1 hr.2.1 a he hc k hk (hj.1.2.2.2.2 _ hlk) (fun _ h9 => h9) hv hd (K p e s m args below meth c H locs cells slots ls hj hr h1 h2 hl)
theorem jr_put {ci k idx a : Nat} {C ref : String} {T : u_T} {N : Nat} {v : Value} {ty : FieldType} {ty0 : Nat → FieldType} {w' : Wd} (hlk : Cond.fieldLink own idx ref (T k).2.1 (T k).2.2.1 ∈ kw) (hu : ∀ w ∈ u_ws C T N, w ∈ kw) (hc : kcl[ci]? = some (C, T, N)) (hci : ci < 10) (hk : k < N) (href : (T k).1 = ref)
    (hty : ∀ k, k < N → parseFieldDescriptor (T k).2.2.1 = some (ty0 k)) (hnm : ∀ a, a < N → ∀ b, b < N → a ≠ b → (T a).2.1 ≠ (T b).2.1) (hdt : parseFieldDescriptor (T k).2.2.1 = some ty) (hn : narrow ty v = v) (hfit : fits ty v = true) (hfin : (T k).2.2.2 = false ∨ ((T k).2.2.2 = true ∧ nm = "<init>" ∧ (T k).1 = own))
    (hs : jK w a ci 0) (hlen : ∀ I F, k < (jfs ci I F).length) (hw' : wn w' = wn w) (hset : cE g w' a = .inr (ci, (jfs ci (wI w a) (fun k => jrf g (wF w a k))).set k v)) (ho : ∀ i, i ≠ a → cE g w' i = cE g w i) (hd : decode cc pc = .ok (.putfield idx, 3)) (K : RR g own cc nL ret nm d kc ks rk rn (pc + 3) lv st w' Q) : RR g own cc nL ret nm d kc ks rk rn pc lv (v :: .ref (gb g + a) :: st) w Q := by
  intro p e s m args below meth c H locs cells slots ls hj hr h1 h2 hl
  have he : (wl g w)[a]? = some (gb g + a, .inr (ci, jfs ci (wI w a) (fun k => jrf g (wF w a k)))) := by rw [wl_at g w hs.1, cE_obj hs hci]
  have hP := hr.2.1
  have hK := hj.2.2.2.2.1
  have hts := hj.1.2.2.2.2
  have hown := hj.1.2.2.2.1
  have hD := wl_D g w
  subst href
  have hap := va_apart (own := own) hts hu ty0 hty hnm hK hc
  obtain ⟨r, g1, cell, q1, q2, q3, q4⟩ := hP a _ he
  have hr2 : r = (C, T, N) := Option.some.inj (g1.symm.trans hc)
  subst hr2
  obtain ⟨hS, hfc, kC, hkC, hkind⟩ := hK.1 ci _ hc
  obtain ⟨cf, kf, fi, f, hi, hsl⟩ := hS k hk
  have hlay := hts _ (hu _ (u_in_lay hk))
  have hst := (u_facts hfc hkC (u_lays hts hu hk) hi).1
  have fin : ∀ H' : Heap, H'[gb g + a]? = some (cell.setSlot (gD g |>.2 ci k) v) → H'.size = H.size → (∀ q : Nat, q ≠ gb g + a → H'[q]? = H[q]?) → W p (gl g) e (jrm d kc ks) s m args below meth c H' (locs ++ [⟨gb g + a, (gD g).2 ci k⟩]) cells slots (MQ below (QQ g Q) args s kc ks (gA g)) (F0 m (pc + 3) ls st) := by
    intro H' e1 e2 e3
    have hP' := hP.set hD he (e := .inr (ci, (jfs ci (wI w a) (fun k => jrf g (wF w a k))).set k v)) ⟨_, hc, t_OB.to (V := updV (vp_V (jfs ci (wI w a) (fun k => jrf g (wF w a k)))) k v) ⟨_, e1, q2, q3, t_set q4 hap hk v⟩ (fun j _ => vp_updV_set (hlen _ _) v j)⟩ e3
    rw [wl_set hs.1 hw' hset ho] at hP'
    exact K p e s m args below meth c H' _ cells slots ls hj ⟨by rw [e2, hw']; exact hr.1, hP', hr.2.2.put e2 e3 (hD.2 a _ he)⟩ h1 h2 hl
  unfold u_lay at hlay
  rcases hfin with hf | ⟨hf, hini, hdecl⟩
  · rw [if_neg (by rw [hf]; decide)] at hlay
    have h6 := u_store hfc hkC hkind hlay hi hdt hn hfit
    refine W.putK hj.1.1 hj.1.2.1 (f := f) ⟨hown, hts _ hlk, ⟨_, _, _, hi⟩, hst⟩ (by rw [q2]; exact h6) q1 q3 (by rw [hsl]; exact k2_hasslot (q4 k hk)) rfl rfl hd fun H' e1 e2 e3 => ?_
    rw [hsl] at e1 ⊢
    exact fin H' e1 e2 e3
  · rw [if_pos hf] at hlay
    have hcf : m.cls = cf := by
      obtain ⟨_, _, c', _, _, _, -, -, hf', -, -, -, hown2, -⟩ := Cond.laysFinal_spec hlay
      have e1 : c' = cf := by have := hi.symm.trans hf'; simp at this; exact this.1.symm
      rw [hdecl] at hown2
      rw [← e1]; exact Option.some.inj (hown.symm.trans hown2)
    have h6 := u_fits hfc hkC hkind (Or.inr hlay) hi hdt hn hfit
    refine W.putFinK hj.1.1 hj.1.2.1 hown (hts _ hlk) hi hst hcf (hj.2.2.2.1.trans hini) (by rw [q2]; exact h6) q1 q3 (by rw [hsl]; exact k2_hasslot (q4 k hk)) rfl rfl hd fun H' e1 e2 e3 => ?_
    rw [hsl] at e1 ⊢
    exact fin H' e1 e2 e3
-- rows
theorem jr_iald {a n : Nat} {i : Int32} (j : Nat) (hs : jK w a 11 n) (hij : i = nI j) (hjn : j < n ∧ n < 2 ^ 31) (hd : decode cc pc = .ok (.iaload, 1)) (K : RR g own cc nL ret nm d kc ks rk rn (pc + 1) lv (.int (wI w a j) :: st) w Q) : RR g own cc nL ret nm d kc ks rk rn pc lv (.int i :: .ref (gb g + a) :: st) w Q := by
  intro p e s m args below meth c H locs cells slots ls hj hr h1 h2 hl
  subst hij
  have ha : (wl g w)[a]? = some (gb g + a, .inl (gc g 1, n, .inl (wI w a))) := by rw [wl_at g w hs.1, cE_int hs (by decide) (by decide)]
  refine va_iald hj.1.1 hj.1.2.1 hj.2.2.2.2.1 hr.2.1 a 1 ha rfl (vp_in_nI hjn.1 hjn.2) hd ?_
  rw [nI_clamp (Nat.lt_trans hjn.1 hjn.2)]
  exact K p e s m args below meth c H locs cells slots ls hj hr h1 h2 hl
theorem jr_bald {a n : Nat} {i : Int32} (j : Nat) (hs : jK w a 10 n) (hij : i = nI j) (hjn : j < n ∧ n < 2 ^ 31) (hd : decode cc pc = .ok (.baload, 1)) (K : RR g own cc nL ret nm d kc ks rk rn (pc + 1) lv (.int (wI w a j) :: st) w Q) : RR g own cc nL ret nm d kc ks rk rn pc lv (.int i :: .ref (gb g + a) :: st) w Q := by
  intro p e s m args below meth c H locs cells slots ls hj hr h1 h2 hl
  subst hij
  have ha : (wl g w)[a]? = some (gb g + a, .inl (gc g 0, n, .inl (wI w a))) := by rw [wl_at g w hs.1, cE_int hs (by decide) (by decide)]
  refine va_bald hj.1.1 hj.1.2.1 hj.2.2.2.2.1 hr.2.1 a 0 ha rfl (vp_in_nI hjn.1 hjn.2) hd ?_
  rw [nI_clamp (Nat.lt_trans hjn.1 hjn.2)]
  exact K p e s m args below meth c H locs cells slots ls hj hr h1 h2 hl
theorem jr_aald {a kd n : Nat} {i : Int32} {v : Value} (j : Nat) (hs : jK w a kd n) (hkd : kd = 12 ∨ kd = 13 ∨ kd = 14 ∨ kd = 15) (hij : i = nI j) (hjn : j < n ∧ n < 2 ^ 31) (hv : jrf g (wF w a j) = v) (hd : decode cc pc = .ok (.aaload, 1)) (K : RR g own cc nL ret nm d kc ks rk rn (pc + 1) lv (v :: st) w Q) : RR g own cc nL ret nm d kc ks rk rn pc lv (.int i :: .ref (gb g + a) :: st) w Q := by
  intro p e s m args below meth c H locs cells slots ls hj hr h1 h2 hl
  subst hij
  subst hv
  have K2 := K p e s m args below meth c H locs cells slots ls hj hr h1 h2 hl
  have hin := vp_in_nI hjn.1 hjn.2
  have hcl : (nI j).toNatClampNeg = j := nI_clamp (Nat.lt_trans hjn.1 hjn.2)
  rcases hkd with rfl | rfl | rfl | rfl
  · exact va_aldq hj.1.1 hj.1.2.1 hj.2.2.2.2.1 hr.2.1 a 2 (by rw [wl_at g w hs.1, cE_ref hs (by decide) (by decide)]) rfl hin hd (by rw [hcl]; exact K2)
  · exact va_aldq hj.1.1 hj.1.2.1 hj.2.2.2.2.1 hr.2.1 a 3 (by rw [wl_at g w hs.1, cE_ref hs (by decide) (by decide)]) rfl hin hd (by rw [hcl]; exact K2)
  · exact va_aldq hj.1.1 hj.1.2.1 hj.2.2.2.2.1 hr.2.1 a 4 (by rw [wl_at g w hs.1, cE_ref hs (by decide) (by decide)]) rfl hin hd (by rw [hcl]; exact K2)
  · exact va_aldq hj.1.1 hj.1.2.1 hj.2.2.2.2.1 hr.2.1 a 5 (by rw [wl_at g w hs.1, cE_ref hs (by decide) (by decide)]) rfl hin hd (by rw [hcl]; exact K2)
theorem jr_alen {a kd n : Nat} (hs : jK w a kd n) (hkd : kd = 10 ∨ kd = 11) (hd : decode cc pc = .ok (.arraylength, 1)) (K : RR g own cc nL ret nm d kc ks rk rn (pc + 1) lv (.int (nI n) :: st) w Q) : RR g own cc nL ret nm d kc ks rk rn pc lv (.ref (gb g + a) :: st) w Q := by
  intro p e s m args below meth c H locs cells slots ls hj hr h1 h2 hl
  have K2 := K p e s m args below meth c H locs cells slots ls hj hr h1 h2 hl
  rcases hkd with rfl | rfl
  · exact va_alen (x := (n, .inl (wI w a))) hj.1.1 hj.1.2.1 hj.2.2.2.2.1 hr.2.1 a 0 (by rw [wl_at g w hs.1, cE_int hs (by decide) (by decide)]) rfl rfl hd K2
  · exact va_alen (x := (n, .inl (wI w a))) hj.1.1 hj.1.2.1 hj.2.2.2.2.1 hr.2.1 a 1 (by rw [wl_at g w hs.1, cE_int hs (by decide) (by decide)]) rfl rfl hd K2
theorem jr_iast {a n : Nat} {i x : Int32} (j : Nat) (hs : jK w a 11 n) (hij : i = nI j) (hjn : j < n ∧ n < 2 ^ 31) (hd : decode cc pc = .ok (.iastore, 1)) (K : RR g own cc nL ret nm d kc ks rk rn (pc + 1) lv st (sR w a (upd (wI w a) j x)) Q) : RR g own cc nL ret nm d kc ks rk rn pc lv (.int x :: .int i :: .ref (gb g + a) :: st) w Q := by
  intro p e s m args below meth c H locs cells slots ls hj hr h1 h2 hl
  subst hij
  have hcl : (nI j).toNatClampNeg = j := nI_clamp (Nat.lt_trans hjn.1 hjn.2)
  have ha : (wl g w)[a]? = some (gb g + a, .inl (gc g 1, n, .inl (wI w a))) := by rw [wl_at g w hs.1, cE_int hs (by decide) (by decide)]
  have hP := hr.2.1
  have hD := wl_D g w
  refine W.iast hj.1.1 hj.1.2.1 (hP a _ ha) ((hj.2.2.2.2.1.2 1 _ rfl).1 n (fun j => .int (wI w a j))) (fun q => by cases q) (by show ¬ (nI j < 0 ∨ (arrV _ _ _).slots.size ≤ _); rw [arrV_size]; exact vp_in_nI hjn.1 hjn.2) rfl rfl hd fun H1 e1 z oq => ?_
  have hP' := hP.set hD ha (e := .inl (gc g 1, n, .inl (upd (wI w a) j x))) (by
    show H1[gb g + a]? = some (vp_cell _ _)
    rw [e1]
    rw [vp_cell_i, vp_cell_i, arrV_store, hcl]
    congr 2
    funext q
    by_cases hq : q = j
    · subst hq; simp [updV, upd]
    · simp [updV, upd, hq]) oq
  rw [wl_set (w' := sR w a (upd (wI w a) j x)) hs.1 rfl (by rw [cE_int (hs.sR _ _) (by decide) (by decide), wI_sR_s]) (fun i hi => cE_sR_o hi)] at hP'
  exact K p e s m args below meth c H1 _ cells slots ls hj ⟨by rw [z]; exact hr.1, hP', hr.2.2.put z oq (hD.2 a _ ha)⟩ h1 h2 hl
theorem jr_bast {a n : Nat} {i x : Int32} (j : Nat) (hs : jK w a 10 n) (hij : i = nI j) (hjn : j < n ∧ n < 2 ^ 31) (hd : decode cc pc = .ok (.bastore, 1)) (K : RR g own cc nL ret nm d kc ks rk rn (pc + 1) lv st (sR w a (upd (wI w a) j x.toInt8.toInt32)) Q) : RR g own cc nL ret nm d kc ks rk rn pc lv (.int x :: .int i :: .ref (gb g + a) :: st) w Q := by
  intro p e s m args below meth c H locs cells slots ls hj hr h1 h2 hl
  subst hij
  have hcl : (nI j).toNatClampNeg = j := nI_clamp (Nat.lt_trans hjn.1 hjn.2)
  have ha : (wl g w)[a]? = some (gb g + a, .inl (gc g 0, n, .inl (wI w a))) := by rw [wl_at g w hs.1, cE_int hs (by decide) (by decide)]
  have hP := hr.2.1
  have hD := wl_D g w
  refine W.bast hj.1.1 hj.1.2.1 (hP a _ ha) ((hj.2.2.2.2.1.2 0 _ rfl).1 n (fun j => .int (wI w a j))) (fun q => by cases q) (by show ¬ (nI j < 0 ∨ (arrV _ _ _).slots.size ≤ _); rw [arrV_size]; exact vp_in_nI hjn.1 hjn.2) rfl rfl hd fun H1 e1 z oq => ?_
  have hP' := hP.set hD ha (e := .inl (gc g 0, n, .inl (upd (wI w a) j x.toInt8.toInt32))) (by
    show H1[gb g + a]? = some (vp_cell _ _)
    rw [e1]
    rw [vp_cell_i, vp_cell_i, arrV_store, hcl]
    congr 2
    funext q
    by_cases hq : q = j
    · subst hq
      have := vp_nar_byte x
      simp [updV, upd, narrow]
    · simp [updV, upd, hq]) oq
  rw [wl_set (w' := sR w a (upd (wI w a) j x.toInt8.toInt32)) hs.1 rfl (by rw [cE_int (hs.sR _ _) (by decide) (by decide), wI_sR_s]) (fun i hi => cE_sR_o hi)] at hP'
  exact K p e s m args below meth c H1 _ cells slots ls hj ⟨by rw [z]; exact hr.1, hP', hr.2.2.put z oq (hD.2 a _ ha)⟩ h1 h2 hl
theorem jr_aast_g {a b kd n ci t0 : Nat} {r : vw_C} {i : Int32} (j : Nat) (hs : jK w a kd n) (hb : jK w b ci 0) (hkd : ¬ kd < 12 ∧ ci < 10) (hc : kcl[ci]? = some r) (ht : (jtys g)[t0]? = some (gc g (kd - 10), .object r.1)) (hij : i = nI j) (hjn : j < n ∧ n < 2 ^ 31) (hd : decode cc pc = .ok (.aastore, 1)) (K : RR g own cc nL ret nm d kc ks rk rn (pc + 1) lv st (sP w a (uF (wF w a) j (some b))) Q) : RR g own cc nL ret nm d kc ks rk rn pc lv (.ref (gb g + b) :: .int i :: .ref (gb g + a) :: st) w Q := by
  intro p e s m args below meth c H locs cells slots ls hj hr h1 h2 hl
  subst hij
  have hcl : (nI j).toNatClampNeg = j := nI_clamp (Nat.lt_trans hjn.1 hjn.2)
  have hin : vp_in (nI j) n := vp_in_nI hjn.1 hjn.2
  have ha : (wl g w)[a]? = some (gb g + a, .inl (gc g (kd - 10), n, .inr (.inr (.inr (.inr (fun j => (wF w a j).map (fun i => gb g + i))))))) := by rw [wl_at g w hs.1, cE_ref hs (by omega) hkd.1]
  have hv : (wl g w)[b]? = some (gb g + b, .inr (ci, jfs ci (wI w b) (fun k => jrf g (wF w b k)))) := by rw [wl_at g w hb.1, cE_obj hb hkd.2]
  have hP := hr.2.1
  have hK := hj.2.2.2.2.1
  have hD := wl_D g w
  have h0 : ¬ nI j < 0 := fun q => hin (Or.inl q)
  obtain ⟨r', hr', cellV, g1, g2, g3, -⟩ := hP b _ hv
  have hcls := (hK.1 ci r hc).2
  obtain ⟨kA, comp, k1, k2, k3, -⟩ := (hK.2 t0 _ ht).2
  have hcomp : comp = (gD g).1 ci := Option.some.inj (k3.symm.trans hcls.1)
  subst hcomp
  obtain ⟨kC, hkC, -⟩ := hcls.2
  refine W.aast hj.1.1 hj.1.2.1 (hP a _ ha) (fun q h => by cases h) (fun h => by cases h) k1 k2 rfl hkC ⟨h0, by show _ < (arrV _ _ _).slots.size; rw [arrV_size, hcl]; exact hjn.1⟩ g1 (fun q h => by rw [g3] at h; cases h) (by rw [g2]; exact hkC) (by rw [g2]; exact va_assign hcls) rfl rfl hd fun H1 e1 z oq => ?_
  have hP' := hP.set hD ha (e := .inl (gc g (kd - 10), n, .inr (.inr (.inr (.inr (fun q => ((uF (wF w a) j (some b)) q).map (fun i => gb g + i))))))) (by
    show H1[gb g + a]? = some (vp_cell _ _)
    rw [e1]
    rw [vp_cell_q, vp_cell_q, arrV_store, hcl]
    congr 2
    funext q
    by_cases hq : q = j
    · subst hq; simp [updV, uF, va_rf]
    · simp [updV, uF, hq]) oq
  rw [wl_set (w' := sP w a (uF (wF w a) j (some b))) hs.1 rfl (by rw [cE_ref (hs.sP _ _) (by omega) hkd.1, wF_sP_s]) (fun i hi => cE_sP_o hi)] at hP'
  exact K p e s m args below meth c H1 _ cells slots ls hj ⟨by rw [z]; exact hr.1, hP', hr.2.2.put z oq (hD.2 a _ ha)⟩ h1 h2 hl
theorem jr_aastN_g {a kd n t0 : Nat} {C : String} {i : Int32} (j : Nat) (hs : jK w a kd n) (hkd : ¬ kd < 12) (ht : (jtys g)[t0]? = some (gc g (kd - 10), .object C)) (hij : i = nI j) (hjn : j < n ∧ n < 2 ^ 31) (hd : decode cc pc = .ok (.aastore, 1)) (K : RR g own cc nL ret nm d kc ks rk rn (pc + 1) lv st (sP w a (uF (wF w a) j none)) Q) : RR g own cc nL ret nm d kc ks rk rn pc lv (.null :: .int i :: .ref (gb g + a) :: st) w Q := by
  intro p e s m args below meth c H locs cells slots ls hj hr h1 h2 hl
  subst hij
  have hcl : (nI j).toNatClampNeg = j := nI_clamp (Nat.lt_trans hjn.1 hjn.2)
  have hin : vp_in (nI j) n := vp_in_nI hjn.1 hjn.2
  have ha : (wl g w)[a]? = some (gb g + a, .inl (gc g (kd - 10), n, .inr (.inr (.inr (.inr (fun j => (wF w a j).map (fun i => gb g + i))))))) := by rw [wl_at g w hs.1, cE_ref hs (by omega) hkd]
  have hP := hr.2.1
  have hK := hj.2.2.2.2.1
  have hD := wl_D g w
  refine va_WaastN (C := C) hj.1.1 hj.1.2.1 (hP a _ ha) ((hK.2 t0 _ ht).1 n (fun j => va_rf ((wF w a j).map (fun i => gb g + i)))) (fun h => by cases h) (by show ¬ (nI j < 0 ∨ (arrV _ _ _).slots.size ≤ _); rw [arrV_size]; exact hin) rfl rfl hd fun H1 e1 z oq => ?_
  have hP' := hP.set hD ha (e := .inl (gc g (kd - 10), n, .inr (.inr (.inr (.inr (fun q => ((uF (wF w a) j none) q).map (fun i => gb g + i))))))) (by
    show H1[gb g + a]? = some (vp_cell _ _)
    rw [e1]
    rw [vp_cell_q, vp_cell_q, arrV_store, hcl]
    congr 2
    funext q
    by_cases hq : q = j
    · subst hq; simp [updV, uF, va_rf]
    · simp [updV, uF, hq]) oq
  rw [wl_set (w' := sP w a (uF (wF w a) j none)) hs.1 rfl (by rw [cE_ref (hs.sP _ _) (by omega) hkd, wF_sP_s]) (fun i hi => cE_sP_o hi)] at hP'
  exact K p e s m args below meth c H1 _ cells slots ls hj ⟨by rw [z]; exact hr.1, hP', hr.2.2.put z oq (hD.2 a _ ha)⟩ h1 h2 hl
-- makings
theorem jr_push {H H1 : Heap} {s : State} {locs : List Loc} {kd n : Nat} (hr : Rp g w s H locs) (z1 : H1.size = gb g + wn w + 1) (o1 : ∀ q, q < gb g + wn w → H1[q]? = H[q]?) (he : va_at (gD g) kcl (gb g + wn w, cE g (pN w kd n) (wn w)) H1) : Rp g (pN w kd n) s H1 locs := by
  obtain ⟨h1, h2, h3⟩ := hr
  refine ⟨by rw [wn_pN]; omega, ?_, ?_⟩
  · have hP1 : va_P (gD g) kcl (wl g w) H1 := h2.kept (fun k x hx => o1 x.1 (by rw [← h1]; exact (h2 k x hx).lt))
    have hP2 : va_P (gD g) kcl [(gb g + wn w, cE g (pN w kd n) (wn w))] H1 := by
      intro k x hx
      have hz : k < 1 := (List.getElem?_eq_some_iff.mp hx).1
      rw [show k = 0 by omega] at hx
      cases hx
      exact he
    have := hP1.app hP2
    rwa [wl_push rfl] at this
  · exact ⟨Nat.le_trans h3.1 (by omega), fun x q1 q2 => (o1 x (by rw [← h1]; exact Nat.lt_of_lt_of_le q1 h3.1)).trans (h3.2.1 x q1 q2), h3.2.2⟩
theorem jr_new {ci idx N : Nat} {C : String} {T : u_T} {ty0 : Nat → FieldType} (hcl : Cond.classLink own idx C ∈ kw) (hinst : Cond.instantiable C N ∈ kw) (hini : Cond.initialized C ∈ kw) (hu : ∀ w ∈ u_ws C T N, w ∈ kw) (hc : kcl[ci]? = some (C, T, N)) (hci : ci < 10) (hty : ∀ k, k < N → parseFieldDescriptor (T k).2.2.1 = some (ty0 k))
    (hfs : ∀ j, j < N → defaultValue (ty0 j) = vp_V (jfs ci (fun _ => 0) (fun _ => .null)) j) (hrk : 1 ≤ rk ∧ N ≤ rn) (hd : decode cc pc = .ok (.new idx, 3)) (K : RR g own cc nL ret nm d kc ks (rk - 1) (rn - N) (pc + 3) lv (.ref (gb g + wn w) :: st) (pN w ci 0) Q) : RR g own cc nL ret nm d kc ks rk rn pc lv st w Q := by
  intro p e s m args below meth c H locs cells slots ls hj hr h1 h2 hl
  have hts := hj.1.2.2.2.2
  have hKn := hj.2.2.2.2.1.1 ci _ hc
  refine W.newcK hj.1.1 hj.1.2.1 hj.1.2.2.2.1 (hts _ hcl) (hts _ hinst) (hts _ hini) rfl hd (by show cells + 1 ≤ kc; omega) (by show slots + N ≤ ks; omega) hKn.2.1 hr.1 fun H1 kC hkC e1 z1 o1 => ?_
  refine K p e s m args below meth c H1 locs (cells + 1) (slots + N) ls hj (jr_push hr z1 o1 ?_) (by omega) (by omega) hl
  rw [cE_obj (jK_new w ci 0) hci]
  refine ⟨_, hc, (u_born ty0 hts hu hKn hkC e1 hty).to ?_⟩
  intro j hj2
  rw [hfs j hj2]
  simp only [wI_pN, wF_pN, if_true]
  rfl
theorem jr_newI {x : Int32} (n : Nat) (hx : x = nI n) (hn : n < 100000) (ha : Cond.arrayClass .int ∈ kw) (hrk : 1 ≤ rk ∧ n ≤ rn) (hd : decode cc pc = .ok (.newarray .int, 2)) (K : RR g own cc nL ret nm d kc ks (rk - 1) (rn - n) (pc + 2) lv (.ref (gb g + wn w) :: st) (pN w 11 n) Q) : RR g own cc nL ret nm d kc ks rk rn pc lv (.int x :: st) w Q := by
  intro p e s m args below meth c H locs cells slots ls hj hr h1 h2 hl
  subst hx
  have hcl : (nI n).toNatClampNeg = n := nI_clamp (Nat.lt_trans hn (by decide))
  refine va_newaK (atype := .int) hj.1.1 hj.1.2.1 (hj.1.2.2.2.2 _ ha) rfl hd rfl (nI_pos (Nat.lt_trans hn (by decide))) hcl (by show n * 4 ≤ _; omega) (by show cells + 1 ≤ kc; omega) (by show slots + n ≤ ks; omega) hr.1 fun H1 cA e1 z1 o1 hAr hNm => ?_
  have hcA : cA = gc g 1 := Option.some.inj (hNm.symm.trans (hj.2.2.2.2.1.2 1 _ rfl).2)
  subst hcA
  refine K p e s m args below meth c H1 locs (cells + 1) (slots + n) ls hj (jr_push hr z1 o1 ?_) (by omega) (by omega) hl
  rw [cE_int (jK_new w 11 n) (by decide) (by decide)]
  simp only [wI_pN, if_true]
  exact e1
theorem jr_newB {x : Int32} (n : Nat) (hx : x = nI n) (hn : n < 100000) (ha : Cond.arrayClass .byte ∈ kw) (hrk : 1 ≤ rk ∧ n ≤ rn) (hd : decode cc pc = .ok (.newarray .byte, 2)) (K : RR g own cc nL ret nm d kc ks (rk - 1) (rn - n) (pc + 2) lv (.ref (gb g + wn w) :: st) (pN w 10 n) Q) : RR g own cc nL ret nm d kc ks rk rn pc lv (.int x :: st) w Q := by
  intro p e s m args below meth c H locs cells slots ls hj hr h1 h2 hl
  subst hx
  have hcl : (nI n).toNatClampNeg = n := nI_clamp (Nat.lt_trans hn (by decide))
  refine va_newaK (atype := .byte) hj.1.1 hj.1.2.1 (hj.1.2.2.2.2 _ ha) rfl hd rfl (nI_pos (Nat.lt_trans hn (by decide))) hcl (by show n * 1 ≤ _; omega) (by show cells + 1 ≤ kc; omega) (by show slots + n ≤ ks; omega) hr.1 fun H1 cA e1 z1 o1 hAr hNm => ?_
  have hcA : cA = gc g 0 := Option.some.inj (hNm.symm.trans (hj.2.2.2.2.1.2 0 _ rfl).2)
  subst hcA
  refine K p e s m args below meth c H1 locs (cells + 1) (slots + n) ls hj (jr_push hr z1 o1 ?_) (by omega) (by omega) hl
  rw [cE_int (jK_new w 10 n) (by decide) (by decide)]
  simp only [wI_pN, if_true]
  exact e1
theorem jr_newA_g {x : Int32} {idx kd t0 : Nat} {C : String} (n : Nat) (hx : x = nI n) (hn : n < 100000) (hcl : Cond.classLink own idx C ∈ kw) (hC : C ∈ jarr) (hkd : ¬ kd < 12) (ht : (jtys g)[t0]? = some (gc g (kd - 10), .object C)) (hrk : 1 ≤ rk ∧ n ≤ rn) (hd : decode cc pc = .ok (.anewarray idx, 3)) (K : RR g own cc nL ret nm d kc ks (rk - 1) (rn - n) (pc + 3) lv (.ref (gb g + wn w) :: st) (pN w kd n) Q) : RR g own cc nL ret nm d kc ks rk rn pc lv (.int x :: st) w Q := by
  intro p e s m args below meth c H locs cells slots ls hj hr h1 h2 hl
  subst hx
  have hcln : (nI n).toNatClampNeg = n := nI_clamp (Nat.lt_trans hn (by decide))
  have hover : va_AO C s := hj.2.2.2.2.2.2.2.2.2.2.2.2.2 C hC
  refine W.anew hj.1.1 hj.1.2.1 hj.1.2.2.2.1 (hj.1.2.2.2.2 _ hcl) (va_AO.use hover) rfl hd rfl (nI_pos (Nat.lt_trans hn (by decide))) (by rw [hcln]; omega) (by show cells + 1 ≤ kc; omega) (by show slots + (nI n).toNatClampNeg ≤ ks; rw [hcln]; omega) fun cA kA comp f1 f2 f3 f4 => ?_
  rw [hcln]
  obtain ⟨kA', comp', k1, k2, k3, k4⟩ := (hj.2.2.2.2.1.2 t0 _ ht).2
  have hcA : cA = gc g (kd - 10) := Option.some.inj (f1.symm.trans k4)
  subst hcA
  generalize hH1 : H.push ({ cls := gc g (kd - 10), slots := Array.replicate n .null, vm := .none } : Cell) = H1
  have z1 : H1.size = gb g + wn w + 1 := by rw [← hH1, Array.size_push, hr.1]
  have e1 : H1[gb g + wn w]? = some (arrV (gc g (kd - 10)) n (fun _ => .null)) := by rw [← hH1, ← hr.1, Array.getElem?_push_size, ← arrV_new]
  have o1 : ∀ q : Nat, q < gb g + wn w → H1[q]? = H[q]? := fun q hq => by rw [← hH1, Array.getElem?_push, if_neg (by rw [hr.1]; exact Nat.ne_of_lt hq)]
  show W _ _ _ _ _ _ _ _ _ _ _ _ _ _ _ (F0 m (pc + 3) ls (.ref H.size :: st))
  rw [hr.1]
  refine K p e s m args below meth c H1 locs (cells + 1) (slots + n) ls hj (jr_push hr z1 o1 ?_) (by omega) (by omega) hl
  rw [cE_ref (jK_new w kd n) (by omega) hkd]
  simp only [wF_pN, if_true]
  exact e1
theorem jr_objInit {idx a : Nat} (hlk : Cond.methodLink own idx objectInit ∈ kw) (hin : Cond.instanceMethod objectInit ∈ kw) (hco : Cond.code objectInit ⟨#[0xb1]⟩ 1 none ∈ kw) (hdp : 1 ≤ d) (hst : (st.map fun v => v.category).sum ≤ 8) (hd : decode cc pc = .ok (.invokespecial idx, 3)) (K : RR g own cc nL ret nm d kc ks rk rn (pc + 3) lv st w Q) : RR g own cc nL ret nm d kc ks rk rn pc lv (.ref a :: st) w Q := by
  intro p e s m args below meth c H locs cells slots ls hj hr h1 h2 hl
  have hts := hj.1.2.2.2.2
  refine W.objInit hj.1.1 hj.1.2.1 hj.1.2.2.2.1 (hts _ hlk) (hts _ hin) (hts _ hco) rfl (hl.1.trans hj.1.2.2.1.symm) rfl hd hdp (by show 2 * 0 + _ + 12 ≤ 40 * d; omega) (K p e s m args below meth c H locs cells slots ls hj hr h1 h2 hl)
-- calls
theorem jr_after {H : Heap} {locs : List Loc} {s : State} {P : Option Value → Wd → Prop} {st0 : List Value} {mc ms : Nat} {p : Program} {e : Env} {m : MethodId} {args : Array Value} {below : List Frame} {meth : Method} {c : Code} {cells slots : Nat} {ls : Array Slot} {a : Array Value} (hj : JX g own cc nL ret nm p s m args meth c) (hr : Rp g w s H locs) (h1 : cells + rk ≤ kc) (h2 : slots + rn ≤ ks) (hm : mc ≤ rk ∧ ms ≤ rn) (hl : lv_has ls nL (jasc 0 lv))
    (hrun : va_Run p (gl g) e (jrm d kc ks) s m args below meth c H locs cells slots mc ms (F0 m pc ls st0) st (QQ g P a) (gA g)) (K : ∀ v w', P v w' → RR g own cc nL ret nm d kc ks (rk - mc) (rn - ms) (pc + 3) lv (v.toList ++ st) w' Q) :
    W p (gl g) e (jrm d kc ks) s m args below meth c H locs cells slots (MQ below (QQ g Q) args s kc ks (gA g)) (F0 m pc ls st0) := by
  intro T hT X
  obtain ⟨v, st₀, t, T', L, h0, X', hL, e1, e2, ⟨⟨v', w', hv, hp, hz, hP⟩, hz2, hk⟩, stp⟩ := hrun T hT X
  cases hv
  rw [h0] at hz2 hk
  have hS : va_S (gA g) s.heap T'.heap (locs ++ L) := ⟨Nat.le_trans hr.2.2.1 (by rw [e1]; exact hz2), fun q q1 q2 => by
      rw [e1, hk q (Nat.lt_of_lt_of_le q1 hr.2.2.1) q2]
      exact hr.2.2.2.1 q q1 q2, fun q hq => by
      rcases List.mem_append.mp hq with h | h
      · exact hr.2.2.2.2 q h
      · exact hL q h⟩
  obtain ⟨t2, a1, b1⟩ := K v w' hp p e s m args below meth c T'.heap (locs ++ L) (cells + mc) (slots + ms) ls hj ⟨by rw [e1]; exact hz, by rw [e1]; exact hP, hS⟩ (by omega) (by omega) hl T' rfl X'
  exact ⟨t2, stp t2 a1, b1⟩
theorem CC.blind {y : MethodName} {av : List Value} : FrameBlind (va_Pc av (fun U => GS g U ∧ U.heap.size = gb g + wn w ∧ va_P (gD g) kcl (wl g w) U.heap)) := fun a U f mk q => by
  obtain ⟨q0, q1, q2, q3⟩ := q
  exact ⟨q0, q1.calling f mk a, q2, q3⟩
theorem jr_pre {H : Heap} {locs : List Loc} {s U : State} {av : List Value} (hG : GS g s) (hr : Rp g w s H locs) (hU : U.heap = H) (hW : s.WarmedH U.vm) : va_Pc av (fun U => GS g U ∧ U.heap.size = gb g + wn w ∧ va_P (gD g) kcl (wl g w) U.heap) av.toArray U :=
  ⟨rfl, hG.to hW hr.2.2 hU, by rw [hU]; exact hr.1, by rw [hU]; exact hr.2.1⟩
/-- the words of a call: virtual, static, special; and of those through the nest -/
def JV (own : String) (idx : Nat) (y : MethodName) (cy : ByteArray) (ny : Nat) (ry : Option FieldType) (ci np : Nat) : Prop :=
  Cond.methodLink own idx y ∈ kw ∧ Cond.instanceMethod y ∈ kw ∧ Cond.selects y.cls y y ∈ kw ∧ Cond.initialized y.cls ∈ kw ∧ Cond.code y cy ny ry ∈ kw ∧ (∃ q : vw_C, kcl[ci]? = some q ∧ q.1 = y.cls ∧ ci < 10) ∧ (y.cls ≠ "java/lang/invoke/MethodHandle" ∧ y.cls ≠ "java/lang/invoke/VarHandle" ∧ (parseMethodDescriptor y.desc).map (fun d => d.parameters.length) = some np) ∧ ny ≤ 21
def JS (own : String) (idx : Nat) (y : MethodName) (cy : ByteArray) (ny : Nat) (ry : Option FieldType) (np : Nat) : Prop :=
  Cond.methodLink own idx y ∈ kw ∧ Cond.static y ∈ kw ∧ Cond.initialized y.cls ∈ kw ∧ Cond.code y cy ny ry ∈ kw ∧ (y.cls ≠ "java/lang/invoke/MethodHandle" ∧ y.cls ≠ "java/lang/invoke/VarHandle" ∧ (parseMethodDescriptor y.desc).map (fun d => d.parameters.length) = some np) ∧ ny ≤ 21
def JN (own : String) (idx : Nat) (y : MethodName) (cy : ByteArray) (ny : Nat) (ry : Option FieldType) (np : Nat) : Prop :=
  (∃ host, (own, idx, y, host) ∈ jnest) ∧ Cond.initialized y.cls ∈ kw ∧ Cond.code y cy ny ry ∈ kw ∧ (y.cls ≠ "java/lang/invoke/MethodHandle" ∧ y.cls ≠ "java/lang/invoke/VarHandle" ∧ (parseMethodDescriptor y.desc).map (fun d => d.parameters.length) = some np) ∧ ny ≤ 21
theorem jr_callV {y : MethodName} {cy : ByteArray} {ny : Nat} {ry : Option FieldType} {d' mc ms idx a ci np : Nat} {As st0 : List Value} {P : Option Value → Wd → Prop} (hC : CC g y cy ny ry d' mc ms (.ref (gb g + a) :: As) w P) (hlk : JV own idx y cy ny ry ci np) (hs : jK w a ci 0) (hst : st0 = As.reverse ++ .ref (gb g + a) :: st) (hn : As.length = np) (hdp : d' + 1 ≤ d) (hrm : (st.map fun v => v.category).sum ≤ 8) (hm : mc ≤ rk ∧ ms ≤ rn)
    (hd : decode cc pc = .ok (.invokevirtual idx, 3)) (K : ∀ v w', P v w' → RR g own cc nL ret nm d kc ks (rk - mc) (rn - ms) (pc + 3) lv (v.toList ++ st) w' Q) : RR g own cc nL ret nm d kc ks rk rn pc lv st0 w Q := by
  intro p e s m args below meth c H locs cells slots ls hj hr h1 h2 hl
  obtain ⟨k1, k2, k3, k4, k5, ⟨q, kq, kq2, hci⟩, k6, k7⟩ := hlk
  have hts := hj.1.2.2.2.2
  have he : (wl g w)[a]? = some (gb g + a, .inr (ci, jfs ci (wI w a) (fun k => jrf g (wF w a k)))) := by rw [wl_at g w hs.1, cE_obj hs hci]
  refine jr_after (st0 := st0) hj hr h1 h2 hm hl (va_runV (As := As) (rest := st) (C := y.cls) hj.1 hC ⟨callB_of np hts (kw_good _ _ _ _ k5) rfl rfl rfl (hts _ k4) (hts _ k1) k6 ⟨hdp, by show 8 + (ny + 11) + 40 * d' ≤ 40 * d; omega⟩, hts _ k2, hts _ k3⟩ ⟨CC.blind (y := y), by rw [← kq2]; exact va_recv hj.2.2.2.2.1 hr.2.1 kq he, fun U hU hW => jr_pre hj.2.2.2.2 hr hU hW⟩ rfl hn hl.1 hst (lv_room hrm) hd ⟨by show cells + mc ≤ kc; omega, by show slots + ms ≤ ks; omega⟩) K
theorem jr_callS {y : MethodName} {cy : ByteArray} {ny : Nat} {ry : Option FieldType} {d' mc ms idx np : Nat} {As st0 : List Value} {P : Option Value → Wd → Prop} (hC : CC g y cy ny ry d' mc ms As w P) (hlk : JS own idx y cy ny ry np) (hst : st0 = As.reverse ++ st) (hn : As.length = np) (hdp : d' + 1 ≤ d) (hrm : (st.map fun v => v.category).sum ≤ 8) (hm : mc ≤ rk ∧ ms ≤ rn)
    (hd : decode cc pc = .ok (.invokestatic idx, 3)) (K : ∀ v w', P v w' → RR g own cc nL ret nm d kc ks (rk - mc) (rn - ms) (pc + 3) lv (v.toList ++ st) w' Q) : RR g own cc nL ret nm d kc ks rk rn pc lv st0 w Q := by
  intro p e s m args below meth c H locs cells slots ls hj hr h1 h2 hl
  obtain ⟨k1, k3, k4, k5, k6, k7⟩ := hlk
  have hts := hj.1.2.2.2.2
  refine jr_after (st0 := st0) hj hr h1 h2 hm hl (va_runS (As := As) (rest := st) hj.1 hC ⟨callB_of np hts (kw_good _ _ _ _ k5) rfl rfl rfl (hts _ k4) (hts _ k1) k6 ⟨hdp, by show 8 + (ny + 11) + 40 * d' ≤ 40 * d; omega⟩, hts _ k3⟩ ⟨CC.blind (y := y), fun U hU hW => jr_pre hj.2.2.2.2 hr hU hW⟩ rfl hn hl.1 hst (lv_room hrm) hd ⟨by show cells + mc ≤ kc; omega, by show slots + ms ≤ ks; omega⟩) K
theorem jr_callSN {y : MethodName} {cy : ByteArray} {ny : Nat} {ry : Option FieldType} {d' mc ms idx np : Nat} {As st0 : List Value} {P : Option Value → Wd → Prop} (hC : CC g y cy ny ry d' mc ms As w P) (hlk : JN own idx y cy ny ry np ∧ Cond.static y ∈ kw) (hst : st0 = As.reverse ++ st) (hn : As.length = np) (hdp : d' + 1 ≤ d) (hrm : (st.map fun v => v.category).sum ≤ 8) (hm : mc ≤ rk ∧ ms ≤ rn)
    (hd : decode cc pc = .ok (.invokestatic idx, 3)) (K : ∀ v w', P v w' → RR g own cc nL ret nm d kc ks (rk - mc) (rn - ms) (pc + 3) lv (v.toList ++ st) w' Q) : RR g own cc nL ret nm d kc ks rk rn pc lv st0 w Q := by
  intro p e s m args below meth c H locs cells slots ls hj hr h1 h2 hl
  obtain ⟨⟨⟨host, k1⟩, k4, k5, k6, k7⟩, k3⟩ := hlk
  have hts := hj.1.2.2.2.2
  have hnw := hj.2.2.2.2.2.2.2.2.2.2.2.2.1 _ k1
  refine jr_after (st0 := st0) hj hr h1 h2 hm hl (va_runSN (host := host) (As := As) (rest := st) hj.1 hC ⟨va_cnB np hts (kw_good _ _ _ _ k5) rfl rfl rfl hnw (hts _ k4) k6 ⟨hdp, by show 8 + (ny + 11) + 40 * d' ≤ 40 * d; omega⟩, hts _ k3, trivial⟩ ⟨CC.blind (y := y), fun U hU hW => jr_pre hj.2.2.2.2 hr hU hW⟩ rfl hn hl.1 hst (lv_room hrm) hd ⟨by show cells + mc ≤ kc; omega, by show slots + ms ≤ ks; omega⟩) K
theorem jr_callI {y : MethodName} {cy : ByteArray} {ny : Nat} {d' mc ms idx a np : Nat} {As st0 : List Value} {P : Option Value → Wd → Prop} (hC : CC g y cy ny none d' mc ms (.ref (gb g + a) :: As) w P) (hlk : Cond.methodLink own idx y ∈ kw ∧ Cond.instanceMethod y ∈ kw ∧ Cond.initialized y.cls ∈ kw ∧ Cond.code y cy ny none ∈ kw ∧ (y.cls ≠ "java/lang/invoke/MethodHandle" ∧ y.cls ≠ "java/lang/invoke/VarHandle" ∧ (parseMethodDescriptor y.desc).map (fun d => d.parameters.length) = some np) ∧ ny ≤ 21 ∧ y.name = "<init>") (hst : st0 = As.reverse ++ .ref (gb g + a) :: st) (hn : As.length = np) (hdp : d' + 1 ≤ d) (hrm : (st.map fun v => v.category).sum ≤ 8) (hm : mc ≤ rk ∧ ms ≤ rn)
    (hd : decode cc pc = .ok (.invokespecial idx, 3)) (K : ∀ v w', P v w' → RR g own cc nL ret nm d kc ks (rk - mc) (rn - ms) (pc + 3) lv (v.toList ++ st) w' Q) : RR g own cc nL ret nm d kc ks rk rn pc lv st0 w Q := by
  intro p e s m args below meth c H locs cells slots ls hj hr h1 h2 hl
  obtain ⟨k1, k2, k4, k5, k6, k7, k8⟩ := hlk
  have hts := hj.1.2.2.2.2
  refine jr_after (st0 := st0) hj hr h1 h2 hm hl (va_runI (As := As) (rest := st) hj.1 hC ⟨callB_of np hts (kw_good _ _ _ _ k5) rfl rfl rfl (hts _ k4) (hts _ k1) k6 ⟨hdp, by show 8 + (ny + 11) + 40 * d' ≤ 40 * d; omega⟩, k8, hts _ k2⟩ ⟨CC.blind (y := y), fun U hU hW => jr_pre hj.2.2.2.2 hr hU hW⟩ rfl hn hl.1 hst (lv_room hrm) hd ⟨by show cells + mc ≤ kc; omega, by show slots + ms ≤ ks; omega⟩) K
theorem jr_callIN {y : MethodName} {cy : ByteArray} {ny : Nat} {d' mc ms idx a np : Nat} {As st0 : List Value} {P : Option Value → Wd → Prop} (hC : CC g y cy ny none d' mc ms (.ref (gb g + a) :: As) w P) (hlk : JN own idx y cy ny none np ∧ Cond.instanceMethod y ∈ kw ∧ y.name = "<init>") (hst : st0 = As.reverse ++ .ref (gb g + a) :: st) (hn : As.length = np) (hdp : d' + 1 ≤ d) (hrm : (st.map fun v => v.category).sum ≤ 8) (hm : mc ≤ rk ∧ ms ≤ rn)
    (hd : decode cc pc = .ok (.invokespecial idx, 3)) (K : ∀ v w', P v w' → RR g own cc nL ret nm d kc ks (rk - mc) (rn - ms) (pc + 3) lv (v.toList ++ st) w' Q) : RR g own cc nL ret nm d kc ks rk rn pc lv st0 w Q := by
  intro p e s m args below meth c H locs cells slots ls hj hr h1 h2 hl
  obtain ⟨⟨⟨host, k1⟩, k4, k5, k6, k7⟩, k2, k8⟩ := hlk
  have hts := hj.1.2.2.2.2
  have hnw := hj.2.2.2.2.2.2.2.2.2.2.2.2.1 _ k1
  refine jr_after (st0 := st0) hj hr h1 h2 hm hl (va_runIN (host := host) (As := As) (rest := st) hj.1 hC ⟨va_cnB np hts (kw_good _ _ _ _ k5) rfl rfl rfl hnw (hts _ k4) k6 ⟨hdp, by show 8 + (ny + 11) + 40 * d' ≤ 40 * d; omega⟩, k8, hts _ k2⟩ ⟨CC.blind (y := y), fun U hU hW => jr_pre hj.2.2.2.2 hr hU hW⟩ rfl hn hl.1 hst (lv_room hrm) hd ⟨by show cells + mc ≤ kc; omega, by show slots + ms ≤ ks; omega⟩) K
-- a contract out of a run from its entry
theorem CC.of {y : MethodName} {av : List Value} {P : Option Value → Wd → Prop} (hy : plainName y.cls = true) (ho : y.cls = own) (hnm : y.name = nm) (hln : (lg_sl av).length ≤ nL) (hlv : lv_args 0 av = jasc 0 lv) (K : RR g own cc nL ret nm d kc ks kc ks 0 lv [] w P) : CC g y cc nL ret d kc ks av w P := by
  refine Met.ofW (cc := cc) (maxL := nL) (ret := ret) hy rfl ?_
  intro p e s m args below meth c s₁ B hml hv
  obtain ⟨rfl, hG, hz, hP⟩ := hv
  have hts := atoms_spec (ws := Cond.code y cc nL ret :: kw) B.pre
  have hown : s.vm.findClass own = some m.cls := by rw [← ho]; exact findClass_of_methodNamed B.named
  have hin : meth.name = nm := (name_of_methodNamed B.named B.method).1.trans hnm
  have hl := lv_entry av (n := nL) hln
  rw [lg_entry_eq]
  rw [hlv] at hl
  exact K p e s m _ below meth c s.heap [] 0 0 _ ⟨⟨B.exec, B.bytes, hml, hown, fun w h => hts w (List.mem_cons_of_mem _ h)⟩, B.returns, B.notSynchronized, hin, hG⟩ ⟨hz, hP, va_S.rf⟩ (by omega) (by omega) hl
-- System.arraycopy of ints
theorem jr_acopy {idx a0 a n0 n1 : Nat} {x y z : Int32} (sp dp n : Nat) (hlk : Cond.methodLink own idx arraycopyName ∈ kw) (hnat : Cond.native arraycopyName ∈ kw) (hstt : Cond.static arraycopyName ∈ kw) (hini : Cond.initialized "java/lang/System" ∈ kw) (hs0 : jK w a0 11 n0) (hs1 : jK w a 11 n1) (hx : x = nI sp) (hy : y = nI dp) (hz : z = nI n) (hb : sp + n ≤ n0 ∧ dp + n ≤ n1 ∧ n0 < 2 ^ 31 ∧ n1 < 2 ^ 31) (hdp : 1 ≤ d) (hrm : (st.map fun v => v.category).sum ≤ 8)
    (hd : decode cc pc = .ok (.invokestatic idx, 3)) (K : RR g own cc nL ret nm d kc ks rk rn (pc + 3) lv st (sR w a (va_cpy (wI w a0) (wI w a) sp dp n)) Q) : RR g own cc nL ret nm d kc ks rk rn pc lv (.int z :: .int y :: .ref (gb g + a) :: .int x :: .ref (gb g + a0) :: st) w Q := by
  intro p e s m args below meth c H locs cells slots ls hj hr h1 h2 hl
  subst hx; subst hy; subst hz
  have hts := hj.1.2.2.2.2
  have hK := hj.2.2.2.2.1
  have hP := hr.2.1
  have hD := wl_D g w
  have ha0 : (wl g w)[a0]? = some (gb g + a0, .inl (gc g 1, n0, .inl (wI w a0))) := by rw [wl_at g w hs0.1, cE_int hs0 (by decide) (by decide)]
  have ha1 : (wl g w)[a]? = some (gb g + a, .inl (gc g 1, n1, .inl (wI w a))) := by rw [wl_at g w hs1.1, cE_int hs1 (by decide) (by decide)]
  have csp : (nI sp).toNatClampNeg = sp := nI_clamp (by omega)
  have cdp : (nI dp).toNatClampNeg = dp := nI_clamp (by omega)
  have cn : (nI n).toNatClampNeg = n := nI_clamp (by omega)
  have isp : (nI sp).toInt = (sp : Int) := nI_toInt (by omega)
  have idp : (nI dp).toInt = (dp : Int) := nI_toInt (by omega)
  have inn : (nI n).toInt = (n : Int) := nI_toInt (by omega)
  intro T hT X
  have hc0 : H[gb g + a0]? = some (vp_cell (gc g 1) (n0, .inl (wI w a0))) := hP a0 _ ha0
  have hc1 : H[gb g + a]? = some (vp_cell (gc g 1) (n1, .inl (wI w a))) := hP a _ ha1
  obtain ⟨-, k0, hk0, cm0, hkk0⟩ := (hK.2 1 _ rfl).1 n0 (fun j => .int (wI w a0 j))
  obtain ⟨-, k1, hk1, cm1, hkk1⟩ := (hK.2 1 _ rfl).1 n1 (fun j => .int (wI w a j))
  obtain ⟨vm', X', step⟩ := X.arraycopy hj.1.1 hj.1.2.2.2.1 (hts _ hlk) (hts _ hnat) (hts _ hstt) (hts _ hini) (src := gb g + a0) (dst := gb g + a) (cs := vp_cell (gc g 1) (n0, .inl (wI w a0))) (cd := vp_cell (gc g 1) (n1, .inl (wI w a))) (srcPos := nI sp) (destPos := nI dp) (n := nI n) (by rw [hT]; exact hc0) (by rw [hT]; exact hc1)
    (fun _ h => by cases h) (fun _ h => by cases h) (fun h => by cases h) (fun h => by cases h) hk0 hk1 hkk0 hkk1 (by show (refKind .int != refKind .int || !refKind .int && FieldType.int != FieldType.int) = false; decide) (nI_pos (by omega)) (nI_pos (by omega)) (nI_pos (by omega))
    (by rw [isp, inn]; show ¬ _ > ((arrV (gc g 1) n0 (fun j => .int (wI w a0 j))).slots.size : Int); rw [arrV_size]; omega)
    (by rw [idp, inn]; show ¬ _ > ((arrV (gc g 1) n1 (fun j => .int (wI w a j))).slots.size : Int); rw [arrV_size]; omega)
    (fun vm₁ _ i hi => by
      rw [cn] at hi
      have e : (vp_cell (gc g 1) (n0, .inl (wI w a0))).slots.getD ((nI sp).toNatClampNeg + i) .null = .int (wI w a0 (sp + i)) := by
        show (arrV (gc g 1) n0 (fun j => .int (wI w a0 j))).slots.getD _ _ = _
        rw [Array.getD_eq_getD_getElem?, csp, arrV_read _ _ (by omega)]
        rfl
      refine ⟨?_, ?_⟩
      · rw [e]; rfl
      · rw [e]; exact trivial)
    (g := F0 m pc ls (.int (nI n) :: .int (nI dp) :: .ref (gb g + a) :: .int (nI sp) :: .ref (gb g + a0) :: st)) rfl (hl.1.trans hj.1.2.2.1.symm) (rest := st) rfl (by rw [hj.1.2.1]; exact hd) hdp (by
      show 2 * 0 + _ + _ ≤ 40 * d
      have : nativeFrameWords "java/lang/System" "arraycopy" 5 + 11 ≤ 32 := by decide
      omega)
  have e1 : copied (vp_cell (gc g 1) (n0, .inl (wI w a0))) (vp_cell (gc g 1) (n1, .inl (wI w a))) (nI sp) (nI dp) (nI n) = vp_cell (gc g 1) (n1, .inl (va_cpy (wI w a0) (wI w a) (nI sp).toNatClampNeg (nI dp).toNatClampNeg (nI n).toNatClampNeg)) := va_copied (fun z => .int z) (gc g 1) (gc g 1) (wI w a0) (wI w a) (by rw [csp, cn]; exact hb.1)
  rw [e1] at X' step
  rw [csp, cdp, cn] at X' step
  have hlt : gb g + a < H.size := (Array.getElem?_eq_some_iff.mp hc1).1
  generalize hcell : vp_cell (gc g 1) (n1, .inl (va_cpy (wI w a0) (wI w a) sp dp n)) = cl at X' step
  have hheap : ((T.setVm vm').setCell (gb g + a) cl).heap = H.setIfInBounds (gb g + a) cl := by rw [← hT]; rfl
  have oq : ∀ q : Nat, q ≠ gb g + a → (H.setIfInBounds (gb g + a) cl)[q]? = H[q]? := fun q hq => by simp [Array.getElem?_setIfInBounds, Ne.symm hq]
  have hP' := hP.set hD ha1 (e := .inl (gc g 1, n1, .inl (va_cpy (wI w a0) (wI w a) sp dp n))) (H1 := H.setIfInBounds (gb g + a) cl) (by
    show (H.setIfInBounds (gb g + a) cl)[gb g + a]? = some (vp_cell _ _)
    rw [hcell]
    simp [Array.getElem?_setIfInBounds, hlt]) oq
  rw [wl_set (w' := sR w a (va_cpy (wI w a0) (wI w a) sp dp n)) hs1.1 rfl (by rw [cE_int (hs1.sR _ _) (by decide) (by decide), wI_sR_s]) (fun i hi => cE_sR_o hi)] at hP'
  obtain ⟨t, a1, b1⟩ := K p e s m args below meth c _ _ cells slots ls hj ⟨by rw [Array.size_setIfInBounds]; exact hr.1, hP', ⟨by rw [Array.size_setIfInBounds]; exact hr.2.2.1, fun q g1 g2 => by
      rw [oq q (fun e => g2 (by rw [e]; exact hD.2 a _ ha1))]
      exact hr.2.2.2.1 q g1 g2, fun q hq => by
      rcases List.mem_append.mp hq with h | h
      · exact hr.2.2.2.2 q h
      · obtain ⟨z, -, hz⟩ := List.mem_map.mp h
        rw [← hz]
        exact hD.2 a _ ha1⟩⟩ h1 h2 hl _ hheap X'
  exact ⟨t, step t a1, b1⟩
-- what lies outside the world: the static row ABOVE, String constants
theorem jr_gAbove {idx : Nat} (hlk : Cond.fieldLink own idx "StrokesHeard" "ABOVE" "[I" ∈ kw) (hd : decode cc pc = .ok (.getstatic idx, 3)) (K : RR g own cc nL ret nm d kc ks rk rn (pc + 3) lv (.ref (gx g 0) :: st) w Q) : RR g own cc nL ret nm d kc ks rk rn pc lv st w Q :=
  fun p e s m args below meth c H locs cells slots ls hj hr h1 h2 hl => va_gets hj.1.1 hj.1.2.1 hj.2.2.2.2.2.2.1 hr.2.2 hj.1.2.2.2.1 (hj.1.2.2.2.2 _ hlk) (fun _ h9 => h9) hd (K p e s m args below meth c H locs cells slots ls hj hr h1 h2 hl)
theorem jr_ldAbove {i : Int32} (j : Nat) (hij : i = nI j) (hjn : j < 6) (hd : decode cc pc = .ok (.iaload, 1)) (K : RR g own cc nL ret nm d kc ks rk rn (pc + 1) lv (.int (jabv j) :: st) w Q) : RR g own cc nL ret nm d kc ks rk rn pc lv (.int i :: .ref (gx g 0) :: st) w Q := by
  intro p e s m args below meth c H locs cells slots ls hj hr h1 h2 hl
  subst hij
  exact va_ti hj.1.1 hj.1.2.1 hj.2.2.2.2.2.2.2.1 hr.2.2 (vp_in_nI hjn (by decide)) (by rw [nI_clamp (Nat.lt_trans hjn (by decide))]) hd (K p e s m args below meth c H locs cells slots ls hj hr h1 h2 hl)
theorem jr_gCompact {idx : Nat} (hlk : Cond.fieldLink own idx "java/lang/String" "COMPACT_STRINGS" "Z" ∈ kw) (hd : decode cc pc = .ok (.getstatic idx, 3)) (K : RR g own cc nL ret nm d kc ks rk rn (pc + 3) lv (.int 1 :: st) w Q) : RR g own cc nL ret nm d kc ks rk rn pc lv st w Q :=
  fun p e s m args below meth c H locs cells slots ls hj hr h1 h2 hl => va_gets hj.1.1 hj.1.2.1 hj.2.2.2.2.2.2.2.2.1 hr.2.2 hj.1.2.2.2.1 (hj.1.2.2.2.2 _ hlk) (fun _ h9 => h9) hd (K p e s m args below meth c H locs cells slots ls hj hr h1 h2 hl)
theorem jr_gForm {idx : Nat} (hlk : Cond.fieldLink own idx "jdk/internal/util/Preconditions" "SIOOBE_FORMATTER" "Ljava/util/function/BiFunction;" ∈ kw) (hd : decode cc pc = .ok (.getstatic idx, 3)) (K0 : RR g own cc nL ret nm d kc ks rk rn (pc + 3) lv (.null :: st) w Q) (K : ∀ t : Nat, RR g own cc nL ret nm d kc ks rk rn (pc + 3) lv (.ref t :: st) w Q) : RR g own cc nL ret nm d kc ks rk rn pc lv st w Q := by
  intro p e s m args below meth c H locs cells slots ls hj hr h1 h2 hl
  rcases hj.2.2.2.2.2.2.2.2.2.1 with hZ | ⟨t, hZ⟩
  · exact va_gets hj.1.1 hj.1.2.1 hZ hr.2.2 hj.1.2.2.2.1 (hj.1.2.2.2.2 _ hlk) (fun _ h9 => h9) hd (K0 p e s m args below meth c H locs cells slots ls hj hr h1 h2 hl)
  · exact va_gets hj.1.1 hj.1.2.1 hZ hr.2.2 hj.1.2.2.2.1 (hj.1.2.2.2.2 _ hlk) (fun _ h9 => h9) hd (K t p e s m args below meth c H locs cells slots ls hj hr h1 h2 hl)
theorem jr_ldcS {i : Nat} {q : Nat × String} (hq : jstr[i]? = some q) (hown : own = RX6) (hd : decode cc pc = .ok (.ldc q.1, 2)) (K : RR g own cc nL ret nm d kc ks rk rn (pc + 2) lv (.ref (gx g (1 + i)) :: st) w Q) : RR g own cc nL ret nm d kc ks rk rn pc lv st w Q := by
  intro p e s m args below meth c H locs cells slots ls hj hr h1 h2 hl
  subst hown
  exact va_ldcS hj.1.1 hj.1.2.1 hj.1.2.2.2.1 (hj.2.2.2.2.2.2.2.2.2.2.2.1 i q hq) hd (K p e s m args below meth c H locs cells slots ls hj hr h1 h2 hl)
theorem jr_sValue {i idx : Nat} (hi : i < 9) (hlk : Cond.fieldLink own idx "java/lang/String" "value" "[B" ∈ kw) (hd : decode cc pc = .ok (.getfield idx, 3)) (K : RR g own cc nL ret nm d kc ks rk rn (pc + 3) lv (.ref (gx g (10 + i)) :: st) w Q) : RR g own cc nL ret nm d kc ks rk rn pc lv (.ref (gx g (1 + i)) :: st) w Q :=
  fun p e s m args below meth c H locs cells slots ls hj hr h1 h2 hl => vk_getf hj.1.1 hj.1.2.1 (hj.2.2.2.2.2.2.2.2.2.2.1.1 i hi).2.2.1 hr.2.2 hj.1.2.2.2.1 (hj.1.2.2.2.2 _ hlk) (fun _ h9 => h9) hd (K p e s m args below meth c H locs cells slots ls hj hr h1 h2 hl)
theorem jr_sCoder {i idx : Nat} (hi : i < 9) (hlk : Cond.fieldLink own idx "java/lang/String" "coder" "B" ∈ kw) (hd : decode cc pc = .ok (.getfield idx, 3)) (K : RR g own cc nL ret nm d kc ks rk rn (pc + 3) lv (.int 0 :: st) w Q) : RR g own cc nL ret nm d kc ks rk rn pc lv (.ref (gx g (1 + i)) :: st) w Q :=
  fun p e s m args below meth c H locs cells slots ls hj hr h1 h2 hl => vk_getf hj.1.1 hj.1.2.1 (hj.2.2.2.2.2.2.2.2.2.2.1.1 i hi).2.1 hr.2.2 hj.1.2.2.2.1 (hj.1.2.2.2.2 _ hlk) (fun _ h9 => h9) hd (K p e s m args below meth c H locs cells slots ls hj hr h1 h2 hl)
theorem jr_sLen {i : Nat} (hi : i < 9) (hd : decode cc pc = .ok (.arraylength, 1)) (K : RR g own cc nL ret nm d kc ks rk rn (pc + 1) lv (.int (nI (jlens.getD i 0)) :: st) w Q) : RR g own cc nL ret nm d kc ks rk rn pc lv (.ref (gx g (10 + i)) :: st) w Q :=
  fun p e s m args below meth c H locs cells slots ls hj hr h1 h2 hl => va_tlen hj.1.1 hj.1.2.1 (hj.2.2.2.2.2.2.2.2.2.2.1.1 i hi).2.2.2 hr.2.2 rfl hd (K p e s m args below meth c H locs cells slots ls hj hr h1 h2 hl)
theorem jr_sByte {i : Nat} {x : Int32} (j : Nat) (hi : i < 9) (hx : x = nI j) (hjn : j < jlens.getD i 0 ∧ jlens.getD i 0 < 2 ^ 31) (hd : decode cc pc = .ok (.baload, 1)) (K : RR g own cc nL ret nm d kc ks rk rn (pc + 1) lv (.int ((jbyts.getD i []).getD j 0) :: st) w Q) : RR g own cc nL ret nm d kc ks rk rn pc lv (.int x :: .ref (gx g (10 + i)) :: st) w Q := by
  intro p e s m args below meth c H locs cells slots ls hj hr h1 h2 hl
  subst hx
  exact va_tb hj.1.1 hj.1.2.1 (hj.2.2.2.2.2.2.2.2.2.2.1.1 i hi).2.2.2 hr.2.2 (vp_in_nI hjn.1 hjn.2) (by rw [nI_clamp (Nat.lt_trans hjn.1 hjn.2)]) hd (K p e s m args below meth c H locs cells slots ls hj hr h1 h2 hl)
theorem jr_callVX {y : MethodName} {cy : ByteArray} {ny : Nat} {ry : Option FieldType} {d' mc ms idx i np : Nat} {As st0 : List Value} {P : Option Value → Wd → Prop} (hC : CC g y cy ny ry d' mc ms (.ref (gx g (1 + i)) :: As) w P) (hi : i < 9) (hlk : Cond.methodLink own idx y ∈ kw ∧ Cond.instanceMethod y ∈ kw ∧ Cond.selects y.cls y y ∈ kw ∧ Cond.initialized y.cls ∈ kw ∧ Cond.code y cy ny ry ∈ kw ∧ y.cls = "java/lang/String" ∧ (y.cls ≠ "java/lang/invoke/MethodHandle" ∧ y.cls ≠ "java/lang/invoke/VarHandle" ∧ (parseMethodDescriptor y.desc).map (fun d => d.parameters.length) = some np) ∧ ny ≤ 21) (hst : st0 = As.reverse ++ .ref (gx g (1 + i)) :: st) (hn : As.length = np) (hdp : d' + 1 ≤ d) (hrm : (st.map fun v => v.category).sum ≤ 8) (hm : mc ≤ rk ∧ ms ≤ rn)
    (hd : decode cc pc = .ok (.invokevirtual idx, 3)) (K : ∀ v w', P v w' → RR g own cc nL ret nm d kc ks (rk - mc) (rn - ms) (pc + 3) lv (v.toList ++ st) w' Q) : RR g own cc nL ret nm d kc ks rk rn pc lv st0 w Q := by
  intro p e s m args below meth c H locs cells slots ls hj hr h1 h2 hl
  obtain ⟨k1, k2, k3, k4, k5, kq, k6, k7⟩ := hlk
  have hts := hj.1.2.2.2.2
  refine jr_after (st0 := st0) hj hr h1 h2 hm hl (va_runV (As := As) (rest := st) (C := y.cls) hj.1 hC ⟨callB_of np hts (kw_good _ _ _ _ k5) rfl rfl rfl (hts _ k4) (hts _ k1) k6 ⟨hdp, by show 8 + (ny + 11) + 40 * d' ≤ 40 * d; omega⟩, hts _ k2, hts _ k3⟩ ⟨CC.blind (y := y), by rw [kq]; exact vk_recv (adK := fun i => gx g (1 + i)) (i := i) hj.2.2.2.2.2.2.2.2.2.2.1 hi hr.2.2, fun U hU hW => jr_pre hj.2.2.2.2 hr hU hW⟩ rfl hn hl.1 hst (lv_room hrm) hd ⟨by show cells + mc ≤ kc; omega, by show slots + ms ≤ ks; omega⟩) K

end
end
section
theorem inRJ0 : Cond.initialized RJ0 ∈ kw := kw_in (List.mem_of_getElem? (i := 77) (by decide +kernel)) (by decide +kernel)
theorem inRJ1 : Cond.initialized RJ1 ∈ kw := kw_in (List.mem_of_getElem? (i := 78) (by decide +kernel)) (by decide +kernel)
theorem inRJ11 : Cond.initialized RJ11 ∈ kw := kw_in (List.mem_of_getElem? (i := 81) (by decide +kernel)) (by decide +kernel)
theorem inRJ2 : Cond.initialized RJ2 ∈ kw := kw_in (List.mem_of_getElem? (i := 80) (by decide +kernel)) (by decide +kernel)
theorem inRJ3 : Cond.initialized RJ3 ∈ kw := kw_in (List.mem_of_getElem? (i := 79) (by decide +kernel)) (by decide +kernel)
theorem inRJ6 : Cond.initialized RJ6 ∈ kw := kw_in (List.mem_of_getElem? (i := 76) (by decide +kernel)) (by decide +kernel)
theorem inRJ7 : Cond.initialized RJ7 ∈ kw := kw_in (List.mem_of_getElem? (i := 75) (by decide +kernel)) (by decide +kernel)
theorem inRJ9 : Cond.initialized RJ9 ∈ kw := kw_in (List.mem_of_getElem? (i := 72) (by decide +kernel)) (by decide +kernel)
theorem inRL : Cond.initialized RL ∈ kw := kw_in (List.mem_of_getElem? (i := 62) (by decide +kernel)) (by decide +kernel)
theorem inRX0 : Cond.initialized RX0 ∈ kw := kw_in (List.mem_of_getElem? (i := 65) (by decide +kernel)) (by decide +kernel)
theorem inRX1 : Cond.initialized RX1 ∈ kw := kw_in (List.mem_of_getElem? (i := 66) (by decide +kernel)) (by decide +kernel)
theorem inRX2 : Cond.initialized RX2 ∈ kw := kw_in (List.mem_of_getElem? (i := 64) (by decide +kernel)) (by decide +kernel)
theorem inRX3 : Cond.initialized RX3 ∈ kw := kw_in (List.mem_of_getElem? (i := 69) (by decide +kernel)) (by decide +kernel)
theorem inRX4 : Cond.initialized RX4 ∈ kw := kw_in (List.mem_of_getElem? (i := 70) (by decide +kernel)) (by decide +kernel)
theorem inRX5 : Cond.initialized RX5 ∈ kw := kw_in (List.mem_of_getElem? (i := 73) (by decide +kernel)) (by decide +kernel)
theorem inRX6 : Cond.initialized RX6 ∈ kw := kw_in (List.mem_of_getElem? (i := 68) (by decide +kernel)) (by decide +kernel)
theorem inRX7 : Cond.initialized RX7 ∈ kw := kw_in (List.mem_of_getElem? (i := 67) (by decide +kernel)) (by decide +kernel)
theorem inRX8 : Cond.initialized RX8 ∈ kw := kw_in (List.mem_of_getElem? (i := 63) (by decide +kernel)) (by decide +kernel)
theorem inRX9 : Cond.initialized RX9 ∈ kw := kw_in (List.mem_of_getElem? (i := 71) (by decide +kernel)) (by decide +kernel)
theorem instX0 : Cond.instantiable RX0 3 ∈ kw := kw_in (List.mem_of_getElem? (i := 101) (by decide +kernel)) (by decide +kernel)
theorem instX1 : Cond.instantiable RX1 6 ∈ kw := kw_in (List.mem_of_getElem? (i := 185) (by decide +kernel)) (by decide +kernel)
theorem instX2 : Cond.instantiable RX2 14 ∈ kw := kw_in (List.mem_of_getElem? (i := 91) (by decide +kernel)) (by decide +kernel)
theorem instX3 : Cond.instantiable RX3 3 ∈ kw := kw_in (List.mem_of_getElem? (i := 279) (by decide +kernel)) (by decide +kernel)
theorem instX4 : Cond.instantiable RX4 4 ∈ kw := kw_in (List.mem_of_getElem? (i := 299) (by decide +kernel)) (by decide +kernel)
theorem instX5 : Cond.instantiable RX5 4 ∈ kw := kw_in (List.mem_of_getElem? (i := 855) (by decide +kernel)) (by decide +kernel)
theorem instX6 : Cond.instantiable RX6 9 ∈ kw := kw_in (List.mem_of_getElem? (i := 240) (by decide +kernel)) (by decide +kernel)
theorem instX7 : Cond.instantiable RX7 6 ∈ kw := kw_in (List.mem_of_getElem? (i := 215) (by decide +kernel)) (by decide +kernel)
theorem instX8 : Cond.instantiable RX8 13 ∈ kw := kw_in (List.mem_of_getElem? (i := 83) (by decide +kernel)) (by decide +kernel)
theorem instX9 : Cond.instantiable RX9 32 ∈ kw := kw_in (List.mem_of_getElem? (i := 982) (by decide +kernel)) (by decide +kernel)
set_option maxRecDepth 50000 in
theorem kcX0_init : Cond.code yX0_init cX0_init 1 none ∈ kw := kw_in (List.mem_of_getElem? (i := 104) (by decide +kernel)) (by decide +kernel)
set_option maxRecDepth 50000 in
theorem kcX0_take : Cond.code yX0_take cX0_take 2 none ∈ kw := kw_in (List.mem_of_getElem? (i := 640) (by decide +kernel)) (by decide +kernel)
set_option maxRecDepth 50000 in
theorem kcX0_worth : Cond.code yX0_worth cX0_worth 1 (some .int) ∈ kw := kw_in (List.mem_of_getElem? (i := 445) (by decide +kernel)) (by decide +kernel)
set_option maxRecDepth 50000 in
theorem kcX1_init : Cond.code yX1_init cX1_init 1 none ∈ kw := kw_in (List.mem_of_getElem? (i := 188) (by decide +kernel)) (by decide +kernel)
set_option maxRecDepth 50000 in
theorem kcX1_useClocks : Cond.code yX1_useClocks cX1_useClocks 4 none ∈ kw := kw_in (List.mem_of_getElem? (i := 538) (by decide +kernel)) (by decide +kernel)
set_option maxRecDepth 50000 in
theorem kcX1_addStrokes : Cond.code yX1_addStrokes cX1_addStrokes 10 none ∈ kw := kw_in (List.mem_of_getElem? (i := 545) (by decide +kernel)) (by decide +kernel)
set_option maxRecDepth 50000 in
theorem kcX1_addAt : Cond.code yX1_addAt cX1_addAt 3 none ∈ kw := kw_in (List.mem_of_getElem? (i := 552) (by decide +kernel)) (by decide +kernel)
set_option maxRecDepth 50000 in
theorem kcX1_useNotes : Cond.code yX1_useNotes cX1_useNotes 5 none ∈ kw := kw_in (List.mem_of_getElem? (i := 557) (by decide +kernel)) (by decide +kernel)
set_option maxRecDepth 50000 in
theorem kcX1_findTimes : Cond.code yX1_findTimes cX1_findTimes 5 none ∈ kw := kw_in (List.mem_of_getElem? (i := 562) (by decide +kernel)) (by decide +kernel)
set_option maxRecDepth 50000 in
theorem kcX1_isSure : Cond.code yX1_isSure cX1_isSure 1 (some .boolean) ∈ kw := kw_in (List.mem_of_getElem? (i := 567) (by decide +kernel)) (by decide +kernel)
set_option maxRecDepth 50000 in
theorem kcX1_difference : Cond.code yX1_difference cX1_difference 5 (some .int) ∈ kw := kw_in (List.mem_of_getElem? (i := 619) (by decide +kernel)) (by decide +kernel)
set_option maxRecDepth 50000 in
theorem kcX2_init : Cond.code yX2_init cX2_init 2 none ∈ kw := kw_in (List.mem_of_getElem? (i := 94) (by decide +kernel)) (by decide +kernel)
set_option maxRecDepth 50000 in
theorem kcX2_take : Cond.code yX2_take cX2_take 3 none ∈ kw := kw_in (List.mem_of_getElem? (i := 636) (by decide +kernel)) (by decide +kernel)
set_option maxRecDepth 50000 in
theorem kcX2_hasClock : Cond.code yX2_hasClock cX2_hasClock 2 (some .boolean) ∈ kw := kw_in (List.mem_of_getElem? (i := 385) (by decide +kernel)) (by decide +kernel)
set_option maxRecDepth 50000 in
theorem kcX2_addClock : Cond.code yX2_addClock cX2_addClock 5 none ∈ kw := kw_in (List.mem_of_getElem? (i := 377) (by decide +kernel)) (by decide +kernel)
set_option maxRecDepth 50000 in
theorem kcX2_draw : Cond.code yX2_draw cX2_draw 1 (some .int) ∈ kw := kw_in (List.mem_of_getElem? (i := 483) (by decide +kernel)) (by decide +kernel)
set_option maxRecDepth 50000 in
theorem kcX2_timeNow : Cond.code yX2_timeNow cX2_timeNow 1 (some .int) ∈ kw := kw_in (List.mem_of_getElem? (i := 390) (by decide +kernel)) (by decide +kernel)
set_option maxRecDepth 50000 in
theorem kcX2_bedCount : Cond.code yX2_bedCount cX2_bedCount 2 (some .int) ∈ kw := kw_in (List.mem_of_getElem? (i := 515) (by decide +kernel)) (by decide +kernel)
set_option maxRecDepth 50000 in
theorem kcX2_textAt : Cond.code yX2_textAt cX2_textAt 2 (some (.object "StrokesHeard$Text")) ∈ kw := kw_in (List.mem_of_getElem? (i := 414) (by decide +kernel)) (by decide +kernel)
set_option maxRecDepth 50000 in
theorem kcX2_law : Cond.code yX2_law cX2_law 2 (some (.object "StrokesHeard$Text")) ∈ kw := kw_in (List.mem_of_getElem? (i := 410) (by decide +kernel)) (by decide +kernel)
set_option maxRecDepth 50000 in
theorem kcX2_addText : Cond.code yX2_addText cX2_addText 2 none ∈ kw := kw_in (List.mem_of_getElem? (i := 891) (by decide +kernel)) (by decide +kernel)
set_option maxRecDepth 50000 in
theorem kcX2_againMinute : Cond.code yX2_againMinute cX2_againMinute 5 (some .int) ∈ kw := kw_in (List.mem_of_getElem? (i := 406) (by decide +kernel)) (by decide +kernel)
set_option maxRecDepth 50000 in
theorem kcX2_strokesAt : Cond.code yX2_strokesAt cX2_strokesAt 8 (some .int) ∈ kw := kw_in (List.mem_of_getElem? (i := 394) (by decide +kernel)) (by decide +kernel)
set_option maxRecDepth 50000 in
theorem kcX2_strokesOfAllTimes : Cond.code yX2_strokesOfAllTimes cX2_strokesOfAllTimes 4 (some .int) ∈ kw := kw_in (List.mem_of_getElem? (i := 440) (by decide +kernel)) (by decide +kernel)
set_option maxRecDepth 50000 in
theorem kcX2_totalAt : Cond.code yX2_totalAt cX2_totalAt 4 (some .int) ∈ kw := kw_in (List.mem_of_getElem? (i := 471) (by decide +kernel)) (by decide +kernel)
set_option maxRecDepth 50000 in
theorem kcX2_passMinutes : Cond.code yX2_passMinutes cX2_passMinutes 3 none ∈ kw := kw_in (List.mem_of_getElem? (i := 496) (by decide +kernel)) (by decide +kernel)
set_option maxRecDepth 50000 in
theorem kcX2_hearMinute : Cond.code yX2_hearMinute cX2_hearMinute 4 none ∈ kw := kw_in (List.mem_of_getElem? (i := 502) (by decide +kernel)) (by decide +kernel)
set_option maxRecDepth 50000 in
theorem kcX2_allows : Cond.code yX2_allows cX2_allows 4 (some .boolean) ∈ kw := kw_in (List.mem_of_getElem? (i := 530) (by decide +kernel)) (by decide +kernel)
set_option maxRecDepth 50000 in
theorem kcX3_init : Cond.code yX3_init cX3_init 1 none ∈ kw := kw_in (List.mem_of_getElem? (i := 282) (by decide +kernel)) (by decide +kernel)
set_option maxRecDepth 50000 in
theorem kcX3_become : Cond.code yX3_become cX3_become 3 none ∈ kw := kw_in (List.mem_of_getElem? (i := 908) (by decide +kernel)) (by decide +kernel)
set_option maxRecDepth 50000 in
theorem kcX3_take : Cond.code yX3_take cX3_take 2 none ∈ kw := kw_in (List.mem_of_getElem? (i := 946) (by decide +kernel)) (by decide +kernel)
set_option maxRecDepth 50000 in
theorem kcX3_isNumber : Cond.code yX3_isNumber cX3_isNumber 2 (some .boolean) ∈ kw := kw_in (List.mem_of_getElem? (i := 623) (by decide +kernel)) (by decide +kernel)
set_option maxRecDepth 50000 in
theorem kcX3_hasRun : Cond.code yX3_hasRun cX3_hasRun 3 (some .boolean) ∈ kw := kw_in (List.mem_of_getElem? (i := 936) (by decide +kernel)) (by decide +kernel)
set_option maxRecDepth 50000 in
theorem kcX4_init : Cond.code yX4_init cX4_init 1 none ∈ kw := kw_in (List.mem_of_getElem? (i := 302) (by decide +kernel)) (by decide +kernel)
set_option maxRecDepth 50000 in
theorem kcX5_init : Cond.code yX5_init cX5_init 4 none ∈ kw := kw_in (List.mem_of_getElem? (i := 870) (by decide +kernel)) (by decide +kernel)
set_option maxRecDepth 50000 in
theorem kcX5_value : Cond.code yX5_value cX5_value 7 (some .int) ∈ kw := kw_in (List.mem_of_getElem? (i := 418) (by decide +kernel)) (by decide +kernel)
set_option maxRecDepth 50000 in
theorem kcX5_joined : Cond.code yX5_joined cX5_joined 3 (some .int) ∈ kw := kw_in (List.mem_of_getElem? (i := 421) (by decide +kernel)) (by decide +kernel)
set_option maxRecDepth 50000 in
theorem kcX6_init : Cond.code yX6_init cX6_init 1 none ∈ kw := kw_in (List.mem_of_getElem? (i := 243) (by decide +kernel)) (by decide +kernel)
set_option maxRecDepth 50000 in
theorem kcX6_readText : Cond.code yX6_readText cX6_readText 3 (some .boolean) ∈ kw := kw_in (List.mem_of_getElem? (i := 674) (by decide +kernel)) (by decide +kernel)
set_option maxRecDepth 50000 in
theorem kcX6_newText : Cond.code yX6_newText cX6_newText 1 (some (.object "StrokesHeard$Text")) ∈ kw := kw_in (List.mem_of_getElem? (i := 853) (by decide +kernel)) (by decide +kernel)
set_option maxRecDepth 50000 in
theorem kcX6_advance : Cond.code yX6_advance cX6_advance 3 none ∈ kw := kw_in (List.mem_of_getElem? (i := 679) (by decide +kernel)) (by decide +kernel)
set_option maxRecDepth 50000 in
theorem kcX6_isLetter : Cond.code yX6_isLetter cX6_isLetter 1 (some .boolean) ∈ kw := kw_in (List.mem_of_getElem? (i := 682) (by decide +kernel)) (by decide +kernel)
set_option maxRecDepth 50000 in
theorem kcX6_isDigit : Cond.code yX6_isDigit cX6_isDigit 1 (some .boolean) ∈ kw := kw_in (List.mem_of_getElem? (i := 685) (by decide +kernel)) (by decide +kernel)
set_option maxRecDepth 50000 in
theorem kcX6_isSign : Cond.code yX6_isSign cX6_isSign 2 (some .boolean) ∈ kw := kw_in (List.mem_of_getElem? (i := 842) (by decide +kernel)) (by decide +kernel)
set_option maxRecDepth 50000 in
theorem kcX6_signAmong : Cond.code yX6_signAmong cX6_signAmong 3 (some .int) ∈ kw := kw_in (List.mem_of_getElem? (i := 847) (by decide +kernel)) (by decide +kernel)
set_option maxRecDepth 50000 in
theorem kcX6_isWord : Cond.code yX6_isWord cX6_isWord 3 (some .boolean) ∈ kw := kw_in (List.mem_of_getElem? (i := 694) (by decide +kernel)) (by decide +kernel)
set_option maxRecDepth 50000 in
theorem kcX6_readKey : Cond.code yX6_readKey cX6_readKey 1 (some .boolean) ∈ kw := kw_in (List.mem_of_getElem? (i := 689) (by decide +kernel)) (by decide +kernel)
set_option maxRecDepth 50000 in
theorem kcX6_addStep : Cond.code yX6_addStep cX6_addStep 2 none ∈ kw := kw_in (List.mem_of_getElem? (i := 776) (by decide +kernel)) (by decide +kernel)
set_option maxRecDepth 50000 in
theorem kcX6_readOr : Cond.code yX6_readOr cX6_readOr 5 (some .boolean) ∈ kw := kw_in (List.mem_of_getElem? (i := 748) (by decide +kernel)) (by decide +kernel)
set_option maxRecDepth 50000 in
theorem kcX6_readAnd : Cond.code yX6_readAnd cX6_readAnd 5 (some .boolean) ∈ kw := kw_in (List.mem_of_getElem? (i := 752) (by decide +kernel)) (by decide +kernel)
set_option maxRecDepth 50000 in
theorem kcX6_readTest : Cond.code yX6_readTest cX6_readTest 5 (some .boolean) ∈ kw := kw_in (List.mem_of_getElem? (i := 756) (by decide +kernel)) (by decide +kernel)
set_option maxRecDepth 50000 in
theorem kcX6_readSum : Cond.code yX6_readSum cX6_readSum 6 (some .boolean) ∈ kw := kw_in (List.mem_of_getElem? (i := 760) (by decide +kernel)) (by decide +kernel)
set_option maxRecDepth 50000 in
theorem kcX6_readTerm : Cond.code yX6_readTerm cX6_readTerm 6 (some .boolean) ∈ kw := kw_in (List.mem_of_getElem? (i := 764) (by decide +kernel)) (by decide +kernel)
set_option maxRecDepth 50000 in
theorem kcX6_readPiece : Cond.code yX6_readPiece cX6_readPiece 4 (some .boolean) ∈ kw := kw_in (List.mem_of_getElem? (i := 768) (by decide +kernel)) (by decide +kernel)
set_option maxRecDepth 50000 in
theorem kcX6_readNumber : Cond.code yX6_readNumber cX6_readNumber 3 (some .boolean) ∈ kw := kw_in (List.mem_of_getElem? (i := 772) (by decide +kernel)) (by decide +kernel)
set_option maxRecDepth 50000 in
theorem kcX6_readName : Cond.code yX6_readName cX6_readName 3 (some .boolean) ∈ kw := kw_in (List.mem_of_getElem? (i := 780) (by decide +kernel)) (by decide +kernel)
set_option maxRecDepth 50000 in
theorem kcX7_init : Cond.code yX7_init cX7_init 1 none ∈ kw := kw_in (List.mem_of_getElem? (i := 218) (by decide +kernel)) (by decide +kernel)
set_option maxRecDepth 50000 in
theorem kcX7_shortest : Cond.code yX7_shortest cX7_shortest 3 (some .int) ∈ kw := kw_in (List.mem_of_getElem? (i := 598) (by decide +kernel)) (by decide +kernel)
set_option maxRecDepth 50000 in
theorem kcX7_splitLeavesDoubt : Cond.code yX7_splitLeavesDoubt cX7_splitLeavesDoubt 6 (some .boolean) ∈ kw := kw_in (List.mem_of_getElem? (i := 603) (by decide +kernel)) (by decide +kernel)
set_option maxRecDepth 50000 in
theorem kcX7_partOf : Cond.code yX7_partOf cX7_partOf 6 (some .int) ∈ kw := kw_in (List.mem_of_getElem? (i := 608) (by decide +kernel)) (by decide +kernel)
set_option maxRecDepth 50000 in
theorem kcX8_init : Cond.code yX8_init cX8_init 2 none ∈ kw := kw_in (List.mem_of_getElem? (i := 86) (by decide +kernel)) (by decide +kernel)
set_option maxRecDepth 50000 in
theorem kcX8_clock : Cond.code yX8_clock cX8_clock 4 (some .int) ∈ kw := kw_in (List.mem_of_getElem? (i := 368) (by decide +kernel)) (by decide +kernel)
set_option maxRecDepth 50000 in
theorem kcX8_told : Cond.code yX8_told cX8_told 4 (some .int) ∈ kw := kw_in (List.mem_of_getElem? (i := 381) (by decide +kernel)) (by decide +kernel)
set_option maxRecDepth 50000 in
theorem kcX8_as : Cond.code yX8_as cX8_as 4 (some .int) ∈ kw := kw_in (List.mem_of_getElem? (i := 449) (by decide +kernel)) (by decide +kernel)
set_option maxRecDepth 50000 in
theorem kcX8_turns : Cond.code yX8_turns cX8_turns 5 (some .int) ∈ kw := kw_in (List.mem_of_getElem? (i := 455) (by decide +kernel)) (by decide +kernel)
set_option maxRecDepth 50000 in
theorem kcX8_set : Cond.code yX8_set cX8_set 6 (some .int) ∈ kw := kw_in (List.mem_of_getElem? (i := 459) (by decide +kernel)) (by decide +kernel)
set_option maxRecDepth 50000 in
theorem kcX8_strokes : Cond.code yX8_strokes cX8_strokes 3 (some .int) ∈ kw := kw_in (List.mem_of_getElem? (i := 463) (by decide +kernel)) (by decide +kernel)
set_option maxRecDepth 50000 in
theorem kcX8_total : Cond.code yX8_total cX8_total 2 (some .int) ∈ kw := kw_in (List.mem_of_getElem? (i := 467) (by decide +kernel)) (by decide +kernel)
set_option maxRecDepth 50000 in
theorem kcX8_ear : Cond.code yX8_ear cX8_ear 4 (some .int) ∈ kw := kw_in (List.mem_of_getElem? (i := 475) (by decide +kernel)) (by decide +kernel)
set_option maxRecDepth 50000 in
theorem kcX8_deal : Cond.code yX8_deal cX8_deal 7 (some .int) ∈ kw := kw_in (List.mem_of_getElem? (i := 479) (by decide +kernel)) (by decide +kernel)
set_option maxRecDepth 50000 in
theorem kcX8_seed : Cond.code yX8_seed cX8_seed 3 (some .int) ∈ kw := kw_in (List.mem_of_getElem? (i := 488) (by decide +kernel)) (by decide +kernel)
set_option maxRecDepth 50000 in
theorem kcX8_minutes : Cond.code yX8_minutes cX8_minutes 3 (some .int) ∈ kw := kw_in (List.mem_of_getElem? (i := 492) (by decide +kernel)) (by decide +kernel)
set_option maxRecDepth 50000 in
theorem kcX8_bed : Cond.code yX8_bed cX8_bed 2 (some .int) ∈ kw := kw_in (List.mem_of_getElem? (i := 511) (by decide +kernel)) (by decide +kernel)
set_option maxRecDepth 50000 in
theorem kcX8_note : Cond.code yX8_note cX8_note 2 (some .int) ∈ kw := kw_in (List.mem_of_getElem? (i := 520) (by decide +kernel)) (by decide +kernel)
set_option maxRecDepth 50000 in
theorem kcX8_fits : Cond.code yX8_fits cX8_fits 3 (some .int) ∈ kw := kw_in (List.mem_of_getElem? (i := 525) (by decide +kernel)) (by decide +kernel)
set_option maxRecDepth 50000 in
theorem kcX8_may : Cond.code yX8_may cX8_may 2 (some .int) ∈ kw := kw_in (List.mem_of_getElem? (i := 534) (by decide +kernel)) (by decide +kernel)
set_option maxRecDepth 50000 in
theorem kcX8_next : Cond.code yX8_next cX8_next 2 (some .int) ∈ kw := kw_in (List.mem_of_getElem? (i := 577) (by decide +kernel)) (by decide +kernel)
set_option maxRecDepth 50000 in
theorem kcX8_parts : Cond.code yX8_parts cX8_parts 7 (some .int) ∈ kw := kw_in (List.mem_of_getElem? (i := 581) (by decide +kernel)) (by decide +kernel)
set_option maxRecDepth 50000 in
theorem kcX8_astray : Cond.code yX8_astray cX8_astray 6 (some .int) ∈ kw := kw_in (List.mem_of_getElem? (i := 585) (by decide +kernel)) (by decide +kernel)
set_option maxRecDepth 50000 in
theorem kcX8_right : Cond.code yX8_right cX8_right 7 (some .int) ∈ kw := kw_in (List.mem_of_getElem? (i := 590) (by decide +kernel)) (by decide +kernel)
set_option maxRecDepth 50000 in
theorem kcX8_telling : Cond.code yX8_telling cX8_telling 1 (some .int) ∈ kw := kw_in (List.mem_of_getElem? (i := 594) (by decide +kernel)) (by decide +kernel)
set_option maxRecDepth 50000 in
theorem kcX8_like : Cond.code yX8_like cX8_like 8 (some .int) ∈ kw := kw_in (List.mem_of_getElem? (i := 614) (by decide +kernel)) (by decide +kernel)
set_option maxRecDepth 50000 in
theorem kcX8_behind : Cond.code yX8_behind cX8_behind 3 (some .int) ∈ kw := kw_in (List.mem_of_getElem? (i := 632) (by decide +kernel)) (by decide +kernel)
set_option maxRecDepth 50000 in
theorem kcX8_listen : Cond.code yX8_listen cX8_listen 2 (some .int) ∈ kw := kw_in (List.mem_of_getElem? (i := 644) (by decide +kernel)) (by decide +kernel)
set_option maxRecDepth 50000 in
theorem kcX8_fee : Cond.code yX8_fee cX8_fee 2 (some .int) ∈ kw := kw_in (List.mem_of_getElem? (i := 648) (by decide +kernel)) (by decide +kernel)
set_option maxRecDepth 50000 in
theorem kcX8_fine : Cond.code yX8_fine cX8_fine 4 (some .int) ∈ kw := kw_in (List.mem_of_getElem? (i := 654) (by decide +kernel)) (by decide +kernel)
set_option maxRecDepth 50000 in
theorem kcX8_feed : Cond.code yX8_feed cX8_feed 4 (some .int) ∈ kw := kw_in (List.mem_of_getElem? (i := 658) (by decide +kernel)) (by decide +kernel)
set_option maxRecDepth 50000 in
theorem kcX8_trim : Cond.code yX8_trim cX8_trim 2 (some .int) ∈ kw := kw_in (List.mem_of_getElem? (i := 666) (by decide +kernel)) (by decide +kernel)
set_option maxRecDepth 50000 in
theorem kcX8_text : Cond.code yX8_text cX8_text 2 (some .int) ∈ kw := kw_in (List.mem_of_getElem? (i := 670) (by decide +kernel)) (by decide +kernel)
set_option maxRecDepth 50000 in
theorem kcX8_textTold : Cond.code yX8_textTold cX8_textTold 4 (some .int) ∈ kw := kw_in (List.mem_of_getElem? (i := 895) (by decide +kernel)) (by decide +kernel)
set_option maxRecDepth 50000 in
theorem kcX8_why : Cond.code yX8_why cX8_why 2 (some .int) ∈ kw := kw_in (List.mem_of_getElem? (i := 900) (by decide +kernel)) (by decide +kernel)
set_option maxRecDepth 50000 in
theorem kcX8_sheet : Cond.code yX8_sheet cX8_sheet 4 (some .int) ∈ kw := kw_in (List.mem_of_getElem? (i := 904) (by decide +kernel)) (by decide +kernel)
set_option maxRecDepth 50000 in
theorem kcX8_mark : Cond.code yX8_mark cX8_mark 5 (some .int) ∈ kw := kw_in (List.mem_of_getElem? (i := 915) (by decide +kernel)) (by decide +kernel)
set_option maxRecDepth 50000 in
theorem kcX8_pour : Cond.code yX8_pour cX8_pour 6 (some .int) ∈ kw := kw_in (List.mem_of_getElem? (i := 922) (by decide +kernel)) (by decide +kernel)
set_option maxRecDepth 50000 in
theorem kcX8_reads : Cond.code yX8_reads cX8_reads 6 (some .int) ∈ kw := kw_in (List.mem_of_getElem? (i := 928) (by decide +kernel)) (by decide +kernel)
set_option maxRecDepth 50000 in
theorem kcX8_copy : Cond.code yX8_copy cX8_copy 8 (some .int) ∈ kw := kw_in (List.mem_of_getElem? (i := 932) (by decide +kernel)) (by decide +kernel)
set_option maxRecDepth 50000 in
theorem kcX8_lay : Cond.code yX8_lay cX8_lay 6 (some .int) ∈ kw := kw_in (List.mem_of_getElem? (i := 941) (by decide +kernel)) (by decide +kernel)
set_option maxRecDepth 50000 in
theorem kcX8_ask : Cond.code yX8_ask cX8_ask 4 (some .int) ∈ kw := kw_in (List.mem_of_getElem? (i := 951) (by decide +kernel)) (by decide +kernel)
set_option maxRecDepth 50000 in
theorem kcX8_item : Cond.code yX8_item cX8_item 4 (some .int) ∈ kw := kw_in (List.mem_of_getElem? (i := 955) (by decide +kernel)) (by decide +kernel)
set_option maxRecDepth 50000 in
theorem kcX8_rest : Cond.code yX8_rest cX8_rest 4 (some .int) ∈ kw := kw_in (List.mem_of_getElem? (i := 959) (by decide +kernel)) (by decide +kernel)
set_option maxRecDepth 50000 in
theorem kcX8_tell : Cond.code yX8_tell cX8_tell 2 (some .int) ∈ kw := kw_in (List.mem_of_getElem? (i := 964) (by decide +kernel)) (by decide +kernel)
set_option maxRecDepth 50000 in
theorem kcX8_check : Cond.code yX8_check cX8_check 6 (some .int) ∈ kw := kw_in (List.mem_of_getElem? (i := 968) (by decide +kernel)) (by decide +kernel)
set_option maxRecDepth 50000 in
theorem kcX8_keep : Cond.code yX8_keep cX8_keep 1 (some .int) ∈ kw := kw_in (List.mem_of_getElem? (i := 972) (by decide +kernel)) (by decide +kernel)
set_option maxRecDepth 50000 in
theorem kcX8_back : Cond.code yX8_back cX8_back 1 (some .int) ∈ kw := kw_in (List.mem_of_getElem? (i := 976) (by decide +kernel)) (by decide +kernel)
set_option maxRecDepth 50000 in
theorem kcX8_count : Cond.code yX8_count cX8_count 2 (some .int) ∈ kw := kw_in (List.mem_of_getElem? (i := 980) (by decide +kernel)) (by decide +kernel)
set_option maxRecDepth 50000 in
theorem kcX8_putBytes : Cond.code yX8_putBytes cX8_putBytes 3 none ∈ kw := kw_in (List.mem_of_getElem? (i := 662) (by decide +kernel)) (by decide +kernel)
set_option maxRecDepth 50000 in
theorem kcX8_within : Cond.code yX8_within cX8_within 2 (some .boolean) ∈ kw := kw_in (List.mem_of_getElem? (i := 371) (by decide +kernel)) (by decide +kernel)
set_option maxRecDepth 50000 in
theorem kcX8_held : Cond.code yX8_held cX8_held 3 (some .int) ∈ kw := kw_in (List.mem_of_getElem? (i := 424) (by decide +kernel)) (by decide +kernel)
set_option maxRecDepth 50000 in
theorem kcX8_isUnder : Cond.code yX8_isUnder cX8_isUnder 4 (some .boolean) ∈ kw := kw_in (List.mem_of_getElem? (i := 400) (by decide +kernel)) (by decide +kernel)
set_option maxRecDepth 50000 in
theorem kcX8_fullStrokes : Cond.code yX8_fullStrokes cX8_fullStrokes 2 (some .int) ∈ kw := kw_in (List.mem_of_getElem? (i := 436) (by decide +kernel)) (by decide +kernel)
set_option maxRecDepth 50000 in
theorem kcX8_strokesWithin : Cond.code yX8_strokesWithin cX8_strokesWithin 4 (some .int) ∈ kw := kw_in (List.mem_of_getElem? (i := 433) (by decide +kernel)) (by decide +kernel)
set_option maxRecDepth 50000 in
theorem kcX9_init : Cond.code yX9_init cX9_init 2 none ∈ kw := kw_in (List.mem_of_getElem? (i := 985) (by decide +kernel)) (by decide +kernel)
set_option maxRecDepth 50000 in
theorem kcX9_isIn : Cond.code yX9_isIn cX9_isIn 6 (some .boolean) ∈ kw := kw_in (List.mem_of_getElem? (i := 1091) (by decide +kernel)) (by decide +kernel)
set_option maxRecDepth 50000 in
theorem kcX9_orNone : Cond.code yX9_orNone cX9_orNone 1 (some .int) ∈ kw := kw_in (List.mem_of_getElem? (i := 1414) (by decide +kernel)) (by decide +kernel)
set_option maxRecDepth 50000 in
theorem kcX9_within : Cond.code yX9_within cX9_within 2 (some .int) ∈ kw := kw_in (List.mem_of_getElem? (i := 1434) (by decide +kernel)) (by decide +kernel)
set_option maxRecDepth 50000 in
theorem kcX9_off : Cond.code yX9_off cX9_off 2 (some .int) ∈ kw := kw_in (List.mem_of_getElem? (i := 1296) (by decide +kernel)) (by decide +kernel)
set_option maxRecDepth 50000 in
theorem kcX9_becomes : Cond.code yX9_becomes cX9_becomes 4 (some .int) ∈ kw := kw_in (List.mem_of_getElem? (i := 1166) (by decide +kernel)) (by decide +kernel)
set_option maxRecDepth 50000 in
theorem kcX9_textAt : Cond.code yX9_textAt cX9_textAt 2 (some .int) ∈ kw := kw_in (List.mem_of_getElem? (i := 1139) (by decide +kernel)) (by decide +kernel)
set_option maxRecDepth 50000 in
theorem kcX9_of : Cond.code yX9_of cX9_of 3 (some .int) ∈ kw := kw_in (List.mem_of_getElem? (i := 1115) (by decide +kernel)) (by decide +kernel)
set_option maxRecDepth 50000 in
theorem kcX9_sets : Cond.code yX9_sets cX9_sets 4 none ∈ kw := kw_in (List.mem_of_getElem? (i := 1103) (by decide +kernel)) (by decide +kernel)
set_option maxRecDepth 50000 in
theorem kcX9_isClock : Cond.code yX9_isClock cX9_isClock 2 (some .boolean) ∈ kw := kw_in (List.mem_of_getElem? (i := 1111) (by decide +kernel)) (by decide +kernel)
set_option maxRecDepth 50000 in
theorem kcX9_isText : Cond.code yX9_isText cX9_isText 2 (some .boolean) ∈ kw := kw_in (List.mem_of_getElem? (i := 1407) (by decide +kernel)) (by decide +kernel)
set_option maxRecDepth 50000 in
theorem kcX9_drawn : Cond.code yX9_drawn cX9_drawn 1 (some .int) ∈ kw := kw_in (List.mem_of_getElem? (i := 1201) (by decide +kernel)) (by decide +kernel)
set_option maxRecDepth 50000 in
theorem kcX9_isOf : Cond.code yX9_isOf cX9_isOf 2 (some .boolean) ∈ kw := kw_in (List.mem_of_getElem? (i := 1157) (by decide +kernel)) (by decide +kernel)
set_option maxRecDepth 50000 in
theorem kcX9_comes : Cond.code yX9_comes cX9_comes 5 none ∈ kw := kw_in (List.mem_of_getElem? (i := 1099) (by decide +kernel)) (by decide +kernel)
set_option maxRecDepth 50000 in
theorem kcX9_clock : Cond.code yX9_clock cX9_clock 4 (some .int) ∈ kw := kw_in (List.mem_of_getElem? (i := 1087) (by decide +kernel)) (by decide +kernel)
set_option maxRecDepth 50000 in
theorem kcX9_again : Cond.code yX9_again cX9_again 5 (some .int) ∈ kw := kw_in (List.mem_of_getElem? (i := 1131) (by decide +kernel)) (by decide +kernel)
set_option maxRecDepth 50000 in
theorem kcX9_atHour : Cond.code yX9_atHour cX9_atHour 3 (some .int) ∈ kw := kw_in (List.mem_of_getElem? (i := 1127) (by decide +kernel)) (by decide +kernel)
set_option maxRecDepth 50000 in
theorem kcX9_strikes : Cond.code yX9_strikes cX9_strikes 6 (some .int) ∈ kw := kw_in (List.mem_of_getElem? (i := 1123) (by decide +kernel)) (by decide +kernel)
set_option maxRecDepth 50000 in
theorem kcX9_worth : Cond.code yX9_worth cX9_worth 3 (some .int) ∈ kw := kw_in (List.mem_of_getElem? (i := 1150) (by decide +kernel)) (by decide +kernel)
set_option maxRecDepth 50000 in
theorem kcX9_timeNow : Cond.code yX9_timeNow cX9_timeNow 1 (some .int) ∈ kw := kw_in (List.mem_of_getElem? (i := 1119) (by decide +kernel)) (by decide +kernel)
set_option maxRecDepth 50000 in
theorem kcX9_isTime : Cond.code yX9_isTime cX9_isTime 1 (some .boolean) ∈ kw := kw_in (List.mem_of_getElem? (i := 1178) (by decide +kernel)) (by decide +kernel)
set_option maxRecDepth 50000 in
theorem kcX9_told : Cond.code yX9_told cX9_told 5 (some .int) ∈ kw := kw_in (List.mem_of_getElem? (i := 1107) (by decide +kernel)) (by decide +kernel)
set_option maxRecDepth 50000 in
theorem kcX9_as : Cond.code yX9_as cX9_as 3 (some .int) ∈ kw := kw_in (List.mem_of_getElem? (i := 1154) (by decide +kernel)) (by decide +kernel)
set_option maxRecDepth 50000 in
theorem kcX9_turns : Cond.code yX9_turns cX9_turns 3 (some .int) ∈ kw := kw_in (List.mem_of_getElem? (i := 1162) (by decide +kernel)) (by decide +kernel)
set_option maxRecDepth 50000 in
theorem kcX9_set : Cond.code yX9_set cX9_set 4 (some .int) ∈ kw := kw_in (List.mem_of_getElem? (i := 1170) (by decide +kernel)) (by decide +kernel)
set_option maxRecDepth 50000 in
theorem kcX9_strokes : Cond.code yX9_strokes cX9_strokes 3 (some .int) ∈ kw := kw_in (List.mem_of_getElem? (i := 1175) (by decide +kernel)) (by decide +kernel)
set_option maxRecDepth 50000 in
theorem kcX9_totalAt : Cond.code yX9_totalAt cX9_totalAt 4 (some .int) ∈ kw := kw_in (List.mem_of_getElem? (i := 1187) (by decide +kernel)) (by decide +kernel)
set_option maxRecDepth 50000 in
theorem kcX9_total : Cond.code yX9_total cX9_total 2 (some .int) ∈ kw := kw_in (List.mem_of_getElem? (i := 1183) (by decide +kernel)) (by decide +kernel)
set_option maxRecDepth 50000 in
theorem kcX9_ear : Cond.code yX9_ear cX9_ear 3 (some .int) ∈ kw := kw_in (List.mem_of_getElem? (i := 1191) (by decide +kernel)) (by decide +kernel)
set_option maxRecDepth 50000 in
theorem kcX9_deal : Cond.code yX9_deal cX9_deal 5 (some .int) ∈ kw := kw_in (List.mem_of_getElem? (i := 1196) (by decide +kernel)) (by decide +kernel)
set_option maxRecDepth 50000 in
theorem kcX9_seed : Cond.code yX9_seed cX9_seed 2 (some .int) ∈ kw := kw_in (List.mem_of_getElem? (i := 1206) (by decide +kernel)) (by decide +kernel)
set_option maxRecDepth 50000 in
theorem kcX9_goesOn : Cond.code yX9_goesOn cX9_goesOn 4 none ∈ kw := kw_in (List.mem_of_getElem? (i := 1218) (by decide +kernel)) (by decide +kernel)
set_option maxRecDepth 50000 in
theorem kcX9_goesOnMany : Cond.code yX9_goesOnMany cX9_goesOnMany 3 none ∈ kw := kw_in (List.mem_of_getElem? (i := 1214) (by decide +kernel)) (by decide +kernel)
set_option maxRecDepth 50000 in
theorem kcX9_minutes : Cond.code yX9_minutes cX9_minutes 4 (some .int) ∈ kw := kw_in (List.mem_of_getElem? (i := 1210) (by decide +kernel)) (by decide +kernel)
set_option maxRecDepth 50000 in
theorem kcX9_bed : Cond.code yX9_bed cX9_bed 2 (some .int) ∈ kw := kw_in (List.mem_of_getElem? (i := 1222) (by decide +kernel)) (by decide +kernel)
set_option maxRecDepth 50000 in
theorem kcX9_note : Cond.code yX9_note cX9_note 2 (some .int) ∈ kw := kw_in (List.mem_of_getElem? (i := 1227) (by decide +kernel)) (by decide +kernel)
set_option maxRecDepth 50000 in
theorem kcX9_findAll : Cond.code yX9_findAll cX9_findAll 2 none ∈ kw := kw_in (List.mem_of_getElem? (i := 1237) (by decide +kernel)) (by decide +kernel)
set_option maxRecDepth 50000 in
theorem kcX9_findMore : Cond.code yX9_findMore cX9_findMore 4 none ∈ kw := kw_in (List.mem_of_getElem? (i := 1273) (by decide +kernel)) (by decide +kernel)
set_option maxRecDepth 50000 in
theorem kcX9_doesFit : Cond.code yX9_doesFit cX9_doesFit 6 (some .boolean) ∈ kw := kw_in (List.mem_of_getElem? (i := 1241) (by decide +kernel)) (by decide +kernel)
set_option maxRecDepth 50000 in
theorem kcX9_manyFit : Cond.code yX9_manyFit cX9_manyFit 3 (some .int) ∈ kw := kw_in (List.mem_of_getElem? (i := 1249) (by decide +kernel)) (by decide +kernel)
set_option maxRecDepth 50000 in
theorem kcX9_hoursFit : Cond.code yX9_hoursFit cX9_hoursFit 3 (some .int) ∈ kw := kw_in (List.mem_of_getElem? (i := 1253) (by decide +kernel)) (by decide +kernel)
set_option maxRecDepth 50000 in
theorem kcX9_isSure : Cond.code yX9_isSure cX9_isSure 2 (some .boolean) ∈ kw := kw_in (List.mem_of_getElem? (i := 1257) (by decide +kernel)) (by decide +kernel)
set_option maxRecDepth 50000 in
theorem kcX9_fits : Cond.code yX9_fits cX9_fits 2 (some .int) ∈ kw := kw_in (List.mem_of_getElem? (i := 1233) (by decide +kernel)) (by decide +kernel)
set_option maxRecDepth 50000 in
theorem kcX9_may : Cond.code yX9_may cX9_may 3 (some .int) ∈ kw := kw_in (List.mem_of_getElem? (i := 1245) (by decide +kernel)) (by decide +kernel)
set_option maxRecDepth 50000 in
theorem kcX9_next : Cond.code yX9_next cX9_next 2 (some .int) ∈ kw := kw_in (List.mem_of_getElem? (i := 1261) (by decide +kernel)) (by decide +kernel)
set_option maxRecDepth 50000 in
theorem kcX9_parts : Cond.code yX9_parts cX9_parts 7 (some .int) ∈ kw := kw_in (List.mem_of_getElem? (i := 1265) (by decide +kernel)) (by decide +kernel)
set_option maxRecDepth 50000 in
theorem kcX9_astray : Cond.code yX9_astray cX9_astray 6 (some .int) ∈ kw := kw_in (List.mem_of_getElem? (i := 1269) (by decide +kernel)) (by decide +kernel)
set_option maxRecDepth 50000 in
theorem kcX9_right : Cond.code yX9_right cX9_right 8 (some .int) ∈ kw := kw_in (List.mem_of_getElem? (i := 1277) (by decide +kernel)) (by decide +kernel)
set_option maxRecDepth 50000 in
theorem kcX9_telling : Cond.code yX9_telling cX9_telling 8 (some .int) ∈ kw := kw_in (List.mem_of_getElem? (i := 1281) (by decide +kernel)) (by decide +kernel)
set_option maxRecDepth 50000 in
theorem kcX9_offBy : Cond.code yX9_offBy cX9_offBy 6 (some .int) ∈ kw := kw_in (List.mem_of_getElem? (i := 1293) (by decide +kernel)) (by decide +kernel)
set_option maxRecDepth 50000 in
theorem kcX9_like : Cond.code yX9_like cX9_like 7 (some .int) ∈ kw := kw_in (List.mem_of_getElem? (i := 1285) (by decide +kernel)) (by decide +kernel)
set_option maxRecDepth 50000 in
theorem kcX9_laysBy : Cond.code yX9_laysBy cX9_laysBy 2 none ∈ kw := kw_in (List.mem_of_getElem? (i := 1304) (by decide +kernel)) (by decide +kernel)
set_option maxRecDepth 50000 in
theorem kcX9_laysBack : Cond.code yX9_laysBack cX9_laysBack 2 none ∈ kw := kw_in (List.mem_of_getElem? (i := 1308) (by decide +kernel)) (by decide +kernel)
set_option maxRecDepth 50000 in
theorem kcX9_behind : Cond.code yX9_behind cX9_behind 4 (some .int) ∈ kw := kw_in (List.mem_of_getElem? (i := 1300) (by decide +kernel)) (by decide +kernel)
set_option maxRecDepth 50000 in
theorem kcX9_listen : Cond.code yX9_listen cX9_listen 2 (some .int) ∈ kw := kw_in (List.mem_of_getElem? (i := 1312) (by decide +kernel)) (by decide +kernel)
set_option maxRecDepth 50000 in
theorem kcX9_fee : Cond.code yX9_fee cX9_fee 2 (some .int) ∈ kw := kw_in (List.mem_of_getElem? (i := 1316) (by decide +kernel)) (by decide +kernel)
set_option maxRecDepth 50000 in
theorem kcX9_fine : Cond.code yX9_fine cX9_fine 3 (some .int) ∈ kw := kw_in (List.mem_of_getElem? (i := 1320) (by decide +kernel)) (by decide +kernel)
set_option maxRecDepth 50000 in
theorem kcX9_feed : Cond.code yX9_feed cX9_feed 6 (some .int) ∈ kw := kw_in (List.mem_of_getElem? (i := 1324) (by decide +kernel)) (by decide +kernel)
set_option maxRecDepth 50000 in
theorem kcX9_trim : Cond.code yX9_trim cX9_trim 2 (some .int) ∈ kw := kw_in (List.mem_of_getElem? (i := 1328) (by decide +kernel)) (by decide +kernel)
set_option maxRecDepth 50000 in
theorem kcX9_isLetter : Cond.code yX9_isLetter cX9_isLetter 2 (some .boolean) ∈ kw := kw_in (List.mem_of_getElem? (i := 1344) (by decide +kernel)) (by decide +kernel)
set_option maxRecDepth 50000 in
theorem kcX9_isDigit : Cond.code yX9_isDigit cX9_isDigit 2 (some .boolean) ∈ kw := kw_in (List.mem_of_getElem? (i := 1350) (by decide +kernel)) (by decide +kernel)
set_option maxRecDepth 50000 in
theorem kcX9_nextToken : Cond.code yX9_nextToken cX9_nextToken 3 none ∈ kw := kw_in (List.mem_of_getElem? (i := 1340) (by decide +kernel)) (by decide +kernel)
set_option maxRecDepth 50000 in
theorem kcX9_isSign : Cond.code yX9_isSign cX9_isSign 2 (some .boolean) ∈ kw := kw_in (List.mem_of_getElem? (i := 1399) (by decide +kernel)) (by decide +kernel)
set_option maxRecDepth 50000 in
theorem kcX9_isWordAt : Cond.code yX9_isWordAt cX9_isWordAt 6 (some .boolean) ∈ kw := kw_in (List.mem_of_getElem? (i := 1364) (by decide +kernel)) (by decide +kernel)
set_option maxRecDepth 50000 in
theorem kcX9_isLong : Cond.code yX9_isLong cX9_isLong 8 (some .boolean) ∈ kw := kw_in (List.mem_of_getElem? (i := 1360) (by decide +kernel)) (by decide +kernel)
set_option maxRecDepth 50000 in
theorem kcX9_key : Cond.code yX9_key cX9_key 1 (some .int) ∈ kw := kw_in (List.mem_of_getElem? (i := 1356) (by decide +kernel)) (by decide +kernel)
set_option maxRecDepth 50000 in
theorem kcX9_isName : Cond.code yX9_isName cX9_isName 2 (some .boolean) ∈ kw := kw_in (List.mem_of_getElem? (i := 1395) (by decide +kernel)) (by decide +kernel)
set_option maxRecDepth 50000 in
theorem kcX9_step : Cond.code yX9_step cX9_step 3 none ∈ kw := kw_in (List.mem_of_getElem? (i := 1392) (by decide +kernel)) (by decide +kernel)
set_option maxRecDepth 50000 in
theorem kcX9_either : Cond.code yX9_either cX9_either 2 (some .boolean) ∈ kw := kw_in (List.mem_of_getElem? (i := 1368) (by decide +kernel)) (by decide +kernel)
set_option maxRecDepth 50000 in
theorem kcX9_both : Cond.code yX9_both cX9_both 2 (some .boolean) ∈ kw := kw_in (List.mem_of_getElem? (i := 1372) (by decide +kernel)) (by decide +kernel)
set_option maxRecDepth 50000 in
theorem kcX9_test : Cond.code yX9_test cX9_test 3 (some .boolean) ∈ kw := kw_in (List.mem_of_getElem? (i := 1376) (by decide +kernel)) (by decide +kernel)
set_option maxRecDepth 50000 in
theorem kcX9_sum : Cond.code yX9_sum cX9_sum 3 (some .boolean) ∈ kw := kw_in (List.mem_of_getElem? (i := 1380) (by decide +kernel)) (by decide +kernel)
set_option maxRecDepth 50000 in
theorem kcX9_term : Cond.code yX9_term cX9_term 3 (some .boolean) ∈ kw := kw_in (List.mem_of_getElem? (i := 1384) (by decide +kernel)) (by decide +kernel)
set_option maxRecDepth 50000 in
theorem kcX9_part0 : Cond.code yX9_part0 cX9_part0 2 (some .boolean) ∈ kw := kw_in (List.mem_of_getElem? (i := 1388) (by decide +kernel)) (by decide +kernel)
set_option maxRecDepth 50000 in
theorem kcX9_parse : Cond.code yX9_parse cX9_parse 3 (some .int) ∈ kw := kw_in (List.mem_of_getElem? (i := 1336) (by decide +kernel)) (by decide +kernel)
set_option maxRecDepth 50000 in
theorem kcX9_text : Cond.code yX9_text cX9_text 3 (some .int) ∈ kw := kw_in (List.mem_of_getElem? (i := 1332) (by decide +kernel)) (by decide +kernel)
set_option maxRecDepth 50000 in
theorem kcX9_textTold : Cond.code yX9_textTold cX9_textTold 3 (some .int) ∈ kw := kw_in (List.mem_of_getElem? (i := 1403) (by decide +kernel)) (by decide +kernel)
set_option maxRecDepth 50000 in
theorem kcX9_counts : Cond.code yX9_counts cX9_counts 4 (some .int) ∈ kw := kw_in (List.mem_of_getElem? (i := 1135) (by decide +kernel)) (by decide +kernel)
set_option maxRecDepth 50000 in
theorem kcX9_why : Cond.code yX9_why cX9_why 2 (some .int) ∈ kw := kw_in (List.mem_of_getElem? (i := 1411) (by decide +kernel)) (by decide +kernel)
set_option maxRecDepth 50000 in
theorem kcX9_joined : Cond.code yX9_joined cX9_joined 3 (some .int) ∈ kw := kw_in (List.mem_of_getElem? (i := 1146) (by decide +kernel)) (by decide +kernel)
set_option maxRecDepth 50000 in
theorem kcX9_worked : Cond.code yX9_worked cX9_worked 6 (some .int) ∈ kw := kw_in (List.mem_of_getElem? (i := 1143) (by decide +kernel)) (by decide +kernel)
set_option maxRecDepth 50000 in
theorem kcX9_isSheet : Cond.code yX9_isSheet cX9_isSheet 1 (some .boolean) ∈ kw := kw_in (List.mem_of_getElem? (i := 1288) (by decide +kernel)) (by decide +kernel)
set_option maxRecDepth 50000 in
theorem kcX9_sheet : Cond.code yX9_sheet cX9_sheet 5 (some .int) ∈ kw := kw_in (List.mem_of_getElem? (i := 1418) (by decide +kernel)) (by decide +kernel)
set_option maxRecDepth 50000 in
theorem kcX9_mark : Cond.code yX9_mark cX9_mark 4 (some .int) ∈ kw := kw_in (List.mem_of_getElem? (i := 1424) (by decide +kernel)) (by decide +kernel)
set_option maxRecDepth 50000 in
theorem kcX9_pour : Cond.code yX9_pour cX9_pour 6 (some .int) ∈ kw := kw_in (List.mem_of_getElem? (i := 1431) (by decide +kernel)) (by decide +kernel)
set_option maxRecDepth 50000 in
theorem kcX9_reads : Cond.code yX9_reads cX9_reads 4 (some .int) ∈ kw := kw_in (List.mem_of_getElem? (i := 1438) (by decide +kernel)) (by decide +kernel)
set_option maxRecDepth 50000 in
theorem kcX9_copy : Cond.code yX9_copy cX9_copy 7 (some .int) ∈ kw := kw_in (List.mem_of_getElem? (i := 1442) (by decide +kernel)) (by decide +kernel)
set_option maxRecDepth 50000 in
theorem kcX9_isSlot : Cond.code yX9_isSlot cX9_isSlot 1 (some .boolean) ∈ kw := kw_in (List.mem_of_getElem? (i := 1449) (by decide +kernel)) (by decide +kernel)
set_option maxRecDepth 50000 in
theorem kcX9_lay : Cond.code yX9_lay cX9_lay 7 (some .int) ∈ kw := kw_in (List.mem_of_getElem? (i := 1446) (by decide +kernel)) (by decide +kernel)
set_option maxRecDepth 50000 in
theorem kcX9_ask : Cond.code yX9_ask cX9_ask 3 (some .int) ∈ kw := kw_in (List.mem_of_getElem? (i := 1454) (by decide +kernel)) (by decide +kernel)
set_option maxRecDepth 50000 in
theorem kcX9_item : Cond.code yX9_item cX9_item 4 (some .int) ∈ kw := kw_in (List.mem_of_getElem? (i := 1458) (by decide +kernel)) (by decide +kernel)
set_option maxRecDepth 50000 in
theorem kcX9_rest : Cond.code yX9_rest cX9_rest 3 (some .int) ∈ kw := kw_in (List.mem_of_getElem? (i := 1462) (by decide +kernel)) (by decide +kernel)
set_option maxRecDepth 50000 in
theorem kcX9_tell : Cond.code yX9_tell cX9_tell 2 (some .int) ∈ kw := kw_in (List.mem_of_getElem? (i := 1467) (by decide +kernel)) (by decide +kernel)
set_option maxRecDepth 50000 in
theorem kcX9_setAside : Cond.code yX9_setAside cX9_setAside 4 none ∈ kw := kw_in (List.mem_of_getElem? (i := 1476) (by decide +kernel)) (by decide +kernel)
set_option maxRecDepth 50000 in
theorem kcX9_check : Cond.code yX9_check cX9_check 5 (some .int) ∈ kw := kw_in (List.mem_of_getElem? (i := 1471) (by decide +kernel)) (by decide +kernel)
set_option maxRecDepth 50000 in
theorem kcX9_keep : Cond.code yX9_keep cX9_keep 1 (some .int) ∈ kw := kw_in (List.mem_of_getElem? (i := 1480) (by decide +kernel)) (by decide +kernel)
set_option maxRecDepth 50000 in
theorem kcX9_back : Cond.code yX9_back cX9_back 1 (some .int) ∈ kw := kw_in (List.mem_of_getElem? (i := 1484) (by decide +kernel)) (by decide +kernel)
set_option maxRecDepth 50000 in
theorem kcX9_count : Cond.code yX9_count cX9_count 2 (some .int) ∈ kw := kw_in (List.mem_of_getElem? (i := 1488) (by decide +kernel)) (by decide +kernel)
set_option maxRecDepth 50000 in
theorem kcJ11_isValidCodePoint_9a6ad : Cond.code yJ11_isValidCodePoint_9a6ad cJ11_isValidCodePoint_9a6ad 2 (some .boolean) ∈ kw := kw_in (List.mem_of_getElem? (i := 830) (by decide +kernel)) (by decide +kernel)
set_option maxRecDepth 50000 in
theorem kcJ11_highSurrogate_5068e : Cond.code yJ11_highSurrogate_5068e cJ11_highSurrogate_5068e 1 (some .char) ∈ kw := kw_in (List.mem_of_getElem? (i := 833) (by decide +kernel)) (by decide +kernel)
set_option maxRecDepth 50000 in
theorem kcJ11_lowSurrogate_5068e : Cond.code yJ11_lowSurrogate_5068e cJ11_lowSurrogate_5068e 1 (some .char) ∈ kw := kw_in (List.mem_of_getElem? (i := 837) (by decide +kernel)) (by decide +kernel)
set_option maxRecDepth 50000 in
theorem kcJ6_bitCount_0f7a4 : Cond.code yJ6_bitCount_0f7a4 cJ6_bitCount_0f7a4 1 (some .int) ∈ kw := kw_in (List.mem_of_getElem? (i := 570) (by decide +kernel)) (by decide +kernel)
set_option maxRecDepth 50000 in
theorem kcJ9_floorMod_7cf53 : Cond.code yJ9_floorMod_7cf53 cJ9_floorMod_7cf53 3 (some .int) ∈ kw := kw_in (List.mem_of_getElem? (i := 397) (by decide +kernel)) (by decide +kernel)
set_option maxRecDepth 50000 in
theorem kcJ9_abs_0f7a4 : Cond.code yJ9_abs_0f7a4 cJ9_abs_0f7a4 1 (some .int) ∈ kw := kw_in (List.mem_of_getElem? (i := 628) (by decide +kernel)) (by decide +kernel)
set_option maxRecDepth 50000 in
theorem kcJ9_max_7cf53 : Cond.code yJ9_max_7cf53 cJ9_max_7cf53 2 (some .int) ∈ kw := kw_in (List.mem_of_getElem? (i := 430) (by decide +kernel)) (by decide +kernel)
set_option maxRecDepth 50000 in
theorem kcJ9_min_7cf53 : Cond.code yJ9_min_7cf53 cJ9_min_7cf53 2 (some .int) ∈ kw := kw_in (List.mem_of_getElem? (i := 427) (by decide +kernel)) (by decide +kernel)
set_option maxRecDepth 50000 in
theorem kcJ0_length_8abf5 : Cond.code yJ0_length_8abf5 cJ0_length_8abf5 1 (some .int) ∈ kw := kw_in (List.mem_of_getElem? (i := 698) (by decide +kernel)) (by decide +kernel)
set_option maxRecDepth 50000 in
theorem kcJ0_charAt_5068e : Cond.code yJ0_charAt_5068e cJ0_charAt_5068e 2 (some .char) ∈ kw := kw_in (List.mem_of_getElem? (i := 708) (by decide +kernel)) (by decide +kernel)
set_option maxRecDepth 50000 in
theorem kcJ0_indexOf_0f7a4 : Cond.code yJ0_indexOf_0f7a4 cJ0_indexOf_0f7a4 2 (some .int) ∈ kw := kw_in (List.mem_of_getElem? (i := 787) (by decide +kernel)) (by decide +kernel)
set_option maxRecDepth 50000 in
theorem kcJ0_indexOf_7cf53 : Cond.code yJ0_indexOf_7cf53 cJ0_indexOf_7cf53 3 (some .int) ∈ kw := kw_in (List.mem_of_getElem? (i := 791) (by decide +kernel)) (by decide +kernel)
set_option maxRecDepth 50000 in
theorem kcJ0_coder_7d493 : Cond.code yJ0_coder_7d493 cJ0_coder_7d493 1 (some .byte) ∈ kw := kw_in (List.mem_of_getElem? (i := 702) (by decide +kernel)) (by decide +kernel)
set_option maxRecDepth 50000 in
theorem kcJ0_isLatin1_aae02 : Cond.code yJ0_isLatin1_aae02 cJ0_isLatin1_aae02 1 (some .boolean) ∈ kw := kw_in (List.mem_of_getElem? (i := 712) (by decide +kernel)) (by decide +kernel)
set_option maxRecDepth 50000 in
theorem kcJ0_checkIndex_df160 : Cond.code yJ0_checkIndex_df160 cJ0_checkIndex_df160 2 none ∈ kw := kw_in (List.mem_of_getElem? (i := 718) (by decide +kernel)) (by decide +kernel)
set_option maxRecDepth 50000 in
theorem kcJ0_checkBoundsBeginEnd_23922 : Cond.code yJ0_checkBoundsBeginEnd_23922 cJ0_checkBoundsBeginEnd_23922 3 none ∈ kw := kw_in (List.mem_of_getElem? (i := 818) (by decide +kernel)) (by decide +kernel)
set_option maxRecDepth 50000 in
theorem kcJ1_charAt_3b067 : Cond.code yJ1_charAt_3b067 cJ1_charAt_3b067 2 (some .char) ∈ kw := kw_in (List.mem_of_getElem? (i := 715) (by decide +kernel)) (by decide +kernel)
set_option maxRecDepth 50000 in
theorem kcJ1_canEncode_9a6ad : Cond.code yJ1_canEncode_9a6ad cJ1_canEncode_9a6ad 1 (some .boolean) ∈ kw := kw_in (List.mem_of_getElem? (i := 798) (by decide +kernel)) (by decide +kernel)
set_option maxRecDepth 50000 in
theorem kcJ1_indexOf_4cfef : Cond.code yJ1_indexOf_4cfef cJ1_indexOf_4cfef 4 (some .int) ∈ kw := kw_in (List.mem_of_getElem? (i := 795) (by decide +kernel)) (by decide +kernel)
set_option maxRecDepth 50000 in
theorem kcJ1_indexOfChar_4cfef : Cond.code yJ1_indexOfChar_4cfef cJ1_indexOfChar_4cfef 6 (some .int) ∈ kw := kw_in (List.mem_of_getElem? (i := 803) (by decide +kernel)) (by decide +kernel)
set_option maxRecDepth 50000 in
theorem kcJ2_getChar_3b067 : Cond.code yJ2_getChar_3b067 cJ2_getChar_3b067 2 (some .char) ∈ kw := kw_in (List.mem_of_getElem? (i := 736) (by decide +kernel)) (by decide +kernel)
set_option maxRecDepth 50000 in
theorem kcJ2_length_9d52b : Cond.code yJ2_length_9d52b cJ2_length_9d52b 1 (some .int) ∈ kw := kw_in (List.mem_of_getElem? (i := 732) (by decide +kernel)) (by decide +kernel)
set_option maxRecDepth 50000 in
theorem kcJ2_indexOf_4cfef : Cond.code yJ2_indexOf_4cfef cJ2_indexOf_4cfef 4 (some .int) ∈ kw := kw_in (List.mem_of_getElem? (i := 806) (by decide +kernel)) (by decide +kernel)
set_option maxRecDepth 50000 in
theorem kcJ2_indexOfChar_4cfef : Cond.code yJ2_indexOfChar_4cfef cJ2_indexOfChar_4cfef 4 (some .int) ∈ kw := kw_in (List.mem_of_getElem? (i := 812) (by decide +kernel)) (by decide +kernel)
set_option maxRecDepth 50000 in
theorem kcJ2_indexOfCharUnsafe_4cfef : Cond.code yJ2_indexOfCharUnsafe_4cfef cJ2_indexOfCharUnsafe_4cfef 5 (some .int) ∈ kw := kw_in (List.mem_of_getElem? (i := 824) (by decide +kernel)) (by decide +kernel)
set_option maxRecDepth 50000 in
theorem kcJ2_indexOfSupplementary_4cfef : Cond.code yJ2_indexOfSupplementary_4cfef cJ2_indexOfSupplementary_4cfef 7 (some .int) ∈ kw := kw_in (List.mem_of_getElem? (i := 827) (by decide +kernel)) (by decide +kernel)
set_option maxRecDepth 50000 in
theorem kcJ2_charAt_3b067 : Cond.code yJ2_charAt_3b067 cJ2_charAt_3b067 2 (some .char) ∈ kw := kw_in (List.mem_of_getElem? (i := 726) (by decide +kernel)) (by decide +kernel)
set_option maxRecDepth 50000 in
theorem kcJ2_checkIndex_2214a : Cond.code yJ2_checkIndex_2214a cJ2_checkIndex_2214a 2 none ∈ kw := kw_in (List.mem_of_getElem? (i := 729) (by decide +kernel)) (by decide +kernel)
set_option maxRecDepth 50000 in
theorem kcJ2_checkBoundsBeginEnd_d044e : Cond.code yJ2_checkBoundsBeginEnd_d044e cJ2_checkBoundsBeginEnd_d044e 3 none ∈ kw := kw_in (List.mem_of_getElem? (i := 815) (by decide +kernel)) (by decide +kernel)
set_option maxRecDepth 50000 in
theorem kcJ7_fill_53178 : Cond.code yJ7_fill_53178 cJ7_fill_53178 4 none ∈ kw := kw_in (List.mem_of_getElem? (i := 541) (by decide +kernel)) (by decide +kernel)
set_option maxRecDepth 50000 in
theorem kcJ7_copyOf_59c91 : Cond.code yJ7_copyOf_59c91 cJ7_copyOf_59c91 3 (some (.array .int)) ∈ kw := kw_in (List.mem_of_getElem? (i := 858) (by decide +kernel)) (by decide +kernel)
set_option maxRecDepth 50000 in
theorem kcJ3_checkIndex_8e157 : Cond.code yJ3_checkIndex_8e157 cJ3_checkIndex_8e157 3 (some .int) ∈ kw := kw_in (List.mem_of_getElem? (i := 723) (by decide +kernel)) (by decide +kernel)
set_option maxRecDepth 50000 in
theorem kcJ3_checkFromToIndex_8c36e : Cond.code yJ3_checkFromToIndex_8c36e cJ3_checkFromToIndex_8c36e 4 (some .int) ∈ kw := kw_in (List.mem_of_getElem? (i := 821) (by decide +kernel)) (by decide +kernel)
theorem ac_nat : Cond.native arraycopyName ∈ kw := kw_in (List.mem_of_getElem? (i := 506) (by decide +kernel)) (by decide +kernel)
theorem ac_stt : Cond.static arraycopyName ∈ kw := kw_in (List.mem_of_getElem? (i := 505) (by decide +kernel)) (by decide +kernel)
theorem ac_ini : Cond.initialized "java/lang/System" ∈ kw := kw_in (List.mem_of_getElem? (i := 74) (by decide +kernel)) (by decide +kernel)
theorem oi_in : Cond.instanceMethod objectInit ∈ kw := kw_in (List.mem_of_getElem? (i := 88) (by decide +kernel)) (by decide +kernel)
theorem oi_co : Cond.code objectInit ⟨#[0xb1]⟩ 1 none ∈ kw := kw_in (List.mem_of_getElem? (i := 89) (by decide +kernel)) (by decide +kernel)
theorem arI : Cond.arrayClass .int ∈ kw := kw_in (List.mem_of_getElem? (i := 124) (by decide +kernel)) (by decide +kernel)
theorem arB : Cond.arrayClass .byte ∈ kw := kw_in (List.mem_of_getElem? (i := 274) (by decide +kernel)) (by decide +kernel)
end
section
theorem huX0 : ∀ w ∈ u_ws RX0 TX0 3, w ∈ kw := by
  have h : (u_ws RX0 TX0 3).all (fun w => decide (w ∈ lw_tbl) && goodWord w) = true := by decide +kernel
  intro w hw
  have h1 := List.all_eq_true.mp h w hw
  simp only [Bool.and_eq_true, decide_eq_true_eq] at h1
  exact kw_in h1.1 h1.2
theorem huX1 : ∀ w ∈ u_ws RX1 TX1 6, w ∈ kw := by
  have h : (u_ws RX1 TX1 6).all (fun w => decide (w ∈ lw_tbl) && goodWord w) = true := by decide +kernel
  intro w hw
  have h1 := List.all_eq_true.mp h w hw
  simp only [Bool.and_eq_true, decide_eq_true_eq] at h1
  exact kw_in h1.1 h1.2
theorem huX2 : ∀ w ∈ u_ws RX2 TX2 14, w ∈ kw := by
  have h : (u_ws RX2 TX2 14).all (fun w => decide (w ∈ lw_tbl) && goodWord w) = true := by decide +kernel
  intro w hw
  have h1 := List.all_eq_true.mp h w hw
  simp only [Bool.and_eq_true, decide_eq_true_eq] at h1
  exact kw_in h1.1 h1.2
theorem huX3 : ∀ w ∈ u_ws RX3 TX3 3, w ∈ kw := by
  have h : (u_ws RX3 TX3 3).all (fun w => decide (w ∈ lw_tbl) && goodWord w) = true := by decide +kernel
  intro w hw
  have h1 := List.all_eq_true.mp h w hw
  simp only [Bool.and_eq_true, decide_eq_true_eq] at h1
  exact kw_in h1.1 h1.2
theorem huX4 : ∀ w ∈ u_ws RX4 TX4 4, w ∈ kw := by
  have h : (u_ws RX4 TX4 4).all (fun w => decide (w ∈ lw_tbl) && goodWord w) = true := by decide +kernel
  intro w hw
  have h1 := List.all_eq_true.mp h w hw
  simp only [Bool.and_eq_true, decide_eq_true_eq] at h1
  exact kw_in h1.1 h1.2
theorem huX5 : ∀ w ∈ u_ws RX5 TX5 4, w ∈ kw := by
  have h : (u_ws RX5 TX5 4).all (fun w => decide (w ∈ lw_tbl) && goodWord w) = true := by decide +kernel
  intro w hw
  have h1 := List.all_eq_true.mp h w hw
  simp only [Bool.and_eq_true, decide_eq_true_eq] at h1
  exact kw_in h1.1 h1.2
theorem huX6 : ∀ w ∈ u_ws RX6 TX6 9, w ∈ kw := by
  have h : (u_ws RX6 TX6 9).all (fun w => decide (w ∈ lw_tbl) && goodWord w) = true := by decide +kernel
  intro w hw
  have h1 := List.all_eq_true.mp h w hw
  simp only [Bool.and_eq_true, decide_eq_true_eq] at h1
  exact kw_in h1.1 h1.2
theorem huX7 : ∀ w ∈ u_ws RX7 TX7 6, w ∈ kw := by
  have h : (u_ws RX7 TX7 6).all (fun w => decide (w ∈ lw_tbl) && goodWord w) = true := by decide +kernel
  intro w hw
  have h1 := List.all_eq_true.mp h w hw
  simp only [Bool.and_eq_true, decide_eq_true_eq] at h1
  exact kw_in h1.1 h1.2
theorem huX8 : ∀ w ∈ u_ws RX8 TX8 13, w ∈ kw := by
  have h : (u_ws RX8 TX8 13).all (fun w => decide (w ∈ lw_tbl) && goodWord w) = true := by decide +kernel
  intro w hw
  have h1 := List.all_eq_true.mp h w hw
  simp only [Bool.and_eq_true, decide_eq_true_eq] at h1
  exact kw_in h1.1 h1.2
theorem huX9 : ∀ w ∈ u_ws RX9 TX9 32, w ∈ kw := by
  have h : (u_ws RX9 TX9 32).all (fun w => decide (w ∈ lw_tbl) && goodWord w) = true := by decide +kernel
  intro w hw
  have h1 := List.all_eq_true.mp h w hw
  simp only [Bool.and_eq_true, decide_eq_true_eq] at h1
  exact kw_in h1.1 h1.2
theorem flJ0_9 : Cond.fieldLink RJ0 9 "java/lang/String" "value" "[B" ∈ kw := kw_in (List.mem_of_getElem? (i := 1489) (by decide +kernel)) (by decide +kernel)
theorem flJ0_15 : Cond.fieldLink RJ0 15 "java/lang/String" "coder" "B" ∈ kw := kw_in (List.mem_of_getElem? (i := 1490) (by decide +kernel)) (by decide +kernel)
theorem flJ0_38 : Cond.fieldLink RJ0 38 "java/lang/String" "COMPACT_STRINGS" "Z" ∈ kw := kw_in (List.mem_of_getElem? (i := 703) (by decide +kernel)) (by decide +kernel)
theorem lkJ0_335 : Cond.methodLink RJ0 335 yJ0_coder_7d493 ∈ kw ∧ Cond.instanceMethod yJ0_coder_7d493 ∈ kw ∧ Cond.selects yJ0_coder_7d493.cls yJ0_coder_7d493 yJ0_coder_7d493 ∈ kw ∧ Cond.initialized yJ0_coder_7d493.cls ∈ kw ∧ Cond.code yJ0_coder_7d493 cJ0_coder_7d493 1 (some .byte) ∈ kw ∧ yJ0_coder_7d493.cls = "java/lang/String" ∧ (yJ0_coder_7d493.cls ≠ "java/lang/invoke/MethodHandle" ∧ yJ0_coder_7d493.cls ≠ "java/lang/invoke/VarHandle" ∧ (parseMethodDescriptor yJ0_coder_7d493.desc).map (fun d => d.parameters.length) = some 0) ∧ 1 ≤ 21 := ⟨kw_in (List.mem_of_getElem? (i := 699) (by decide +kernel)) (by decide +kernel), kw_in (List.mem_of_getElem? (i := 700) (by decide +kernel)) (by decide +kernel), kw_in (List.mem_of_getElem? (i := 701) (by decide +kernel)) (by decide +kernel), inRJ0, kcJ0_coder_7d493, rfl, by decide +kernel, by decide⟩
theorem lkJ0_492 : Cond.methodLink RJ0 492 yJ0_isLatin1_aae02 ∈ kw ∧ Cond.instanceMethod yJ0_isLatin1_aae02 ∈ kw ∧ Cond.selects yJ0_isLatin1_aae02.cls yJ0_isLatin1_aae02 yJ0_isLatin1_aae02 ∈ kw ∧ Cond.initialized yJ0_isLatin1_aae02.cls ∈ kw ∧ Cond.code yJ0_isLatin1_aae02 cJ0_isLatin1_aae02 1 (some .boolean) ∈ kw ∧ yJ0_isLatin1_aae02.cls = "java/lang/String" ∧ (yJ0_isLatin1_aae02.cls ≠ "java/lang/invoke/MethodHandle" ∧ yJ0_isLatin1_aae02.cls ≠ "java/lang/invoke/VarHandle" ∧ (parseMethodDescriptor yJ0_isLatin1_aae02.desc).map (fun d => d.parameters.length) = some 0) ∧ 1 ≤ 21 := ⟨kw_in (List.mem_of_getElem? (i := 709) (by decide +kernel)) (by decide +kernel), kw_in (List.mem_of_getElem? (i := 710) (by decide +kernel)) (by decide +kernel), kw_in (List.mem_of_getElem? (i := 711) (by decide +kernel)) (by decide +kernel), inRJ0, kcJ0_isLatin1_aae02, rfl, by decide +kernel, by decide⟩
theorem lkJ0_495 : JS RJ0 495 yJ1_charAt_3b067 cJ1_charAt_3b067 2 (some .char) 2 := ⟨kw_in (List.mem_of_getElem? (i := 713) (by decide +kernel)) (by decide +kernel), kw_in (List.mem_of_getElem? (i := 714) (by decide +kernel)) (by decide +kernel), inRJ1, kcJ1_charAt_3b067, by decide +kernel, by decide⟩
theorem lkJ0_498 : JS RJ0 498 yJ2_charAt_3b067 cJ2_charAt_3b067 2 (some .char) 2 := ⟨kw_in (List.mem_of_getElem? (i := 724) (by decide +kernel)) (by decide +kernel), kw_in (List.mem_of_getElem? (i := 725) (by decide +kernel)) (by decide +kernel), inRJ2, kcJ2_charAt_3b067, by decide +kernel, by decide⟩
theorem lkJ0_505 : Cond.methodLink RJ0 505 yJ0_length_8abf5 ∈ kw ∧ Cond.instanceMethod yJ0_length_8abf5 ∈ kw ∧ Cond.selects yJ0_length_8abf5.cls yJ0_length_8abf5 yJ0_length_8abf5 ∈ kw ∧ Cond.initialized yJ0_length_8abf5.cls ∈ kw ∧ Cond.code yJ0_length_8abf5 cJ0_length_8abf5 1 (some .int) ∈ kw ∧ yJ0_length_8abf5.cls = "java/lang/String" ∧ (yJ0_length_8abf5.cls ≠ "java/lang/invoke/MethodHandle" ∧ yJ0_length_8abf5.cls ≠ "java/lang/invoke/VarHandle" ∧ (parseMethodDescriptor yJ0_length_8abf5.desc).map (fun d => d.parameters.length) = some 0) ∧ 1 ≤ 21 := ⟨kw_in (List.mem_of_getElem? (i := 792) (by decide +kernel)) (by decide +kernel), kw_in (List.mem_of_getElem? (i := 696) (by decide +kernel)) (by decide +kernel), kw_in (List.mem_of_getElem? (i := 697) (by decide +kernel)) (by decide +kernel), inRJ0, kcJ0_length_8abf5, rfl, by decide +kernel, by decide⟩
theorem lkJ0_633 : Cond.methodLink RJ0 633 yJ0_indexOf_7cf53 ∈ kw ∧ Cond.instanceMethod yJ0_indexOf_7cf53 ∈ kw ∧ Cond.selects yJ0_indexOf_7cf53.cls yJ0_indexOf_7cf53 yJ0_indexOf_7cf53 ∈ kw ∧ Cond.initialized yJ0_indexOf_7cf53.cls ∈ kw ∧ Cond.code yJ0_indexOf_7cf53 cJ0_indexOf_7cf53 3 (some .int) ∈ kw ∧ yJ0_indexOf_7cf53.cls = "java/lang/String" ∧ (yJ0_indexOf_7cf53.cls ≠ "java/lang/invoke/MethodHandle" ∧ yJ0_indexOf_7cf53.cls ≠ "java/lang/invoke/VarHandle" ∧ (parseMethodDescriptor yJ0_indexOf_7cf53.desc).map (fun d => d.parameters.length) = some 2) ∧ 3 ≤ 21 := ⟨kw_in (List.mem_of_getElem? (i := 788) (by decide +kernel)) (by decide +kernel), kw_in (List.mem_of_getElem? (i := 789) (by decide +kernel)) (by decide +kernel), kw_in (List.mem_of_getElem? (i := 790) (by decide +kernel)) (by decide +kernel), inRJ0, kcJ0_indexOf_7cf53, rfl, by decide +kernel, by decide⟩
theorem lkJ0_637 : JS RJ0 637 yJ1_indexOf_4cfef cJ1_indexOf_4cfef 4 (some .int) 4 := ⟨kw_in (List.mem_of_getElem? (i := 793) (by decide +kernel)) (by decide +kernel), kw_in (List.mem_of_getElem? (i := 794) (by decide +kernel)) (by decide +kernel), inRJ1, kcJ1_indexOf_4cfef, by decide +kernel, by decide⟩
theorem lkJ0_640 : JS RJ0 640 yJ2_indexOf_4cfef cJ2_indexOf_4cfef 4 (some .int) 4 := ⟨kw_in (List.mem_of_getElem? (i := 804) (by decide +kernel)) (by decide +kernel), kw_in (List.mem_of_getElem? (i := 805) (by decide +kernel)) (by decide +kernel), inRJ2, kcJ2_indexOf_4cfef, by decide +kernel, by decide⟩
theorem flJ0_1053 : Cond.fieldLink RJ0 1053 "jdk/internal/util/Preconditions" "SIOOBE_FORMATTER" "Ljava/util/function/BiFunction;" ∈ kw := kw_in (List.mem_of_getElem? (i := 719) (by decide +kernel)) (by decide +kernel)
theorem lkJ0_1059 : JS RJ0 1059 yJ3_checkIndex_8e157 cJ3_checkIndex_8e157 3 (some .int) 3 := ⟨kw_in (List.mem_of_getElem? (i := 721) (by decide +kernel)) (by decide +kernel), kw_in (List.mem_of_getElem? (i := 722) (by decide +kernel)) (by decide +kernel), inRJ3, kcJ3_checkIndex_8e157, by decide +kernel, by decide⟩
theorem lkJ0_1062 : JS RJ0 1062 yJ3_checkFromToIndex_8c36e cJ3_checkFromToIndex_8c36e 4 (some .int) 4 := ⟨kw_in (List.mem_of_getElem? (i := 819) (by decide +kernel)) (by decide +kernel), kw_in (List.mem_of_getElem? (i := 820) (by decide +kernel)) (by decide +kernel), inRJ3, kcJ3_checkFromToIndex_8c36e, by decide +kernel, by decide⟩
theorem lkJ1_9 : JS RJ1 9 yJ0_checkIndex_df160 cJ0_checkIndex_df160 2 none 2 := ⟨kw_in (List.mem_of_getElem? (i := 716) (by decide +kernel)) (by decide +kernel), kw_in (List.mem_of_getElem? (i := 717) (by decide +kernel)) (by decide +kernel), inRJ0, kcJ0_checkIndex_df160, by decide +kernel, by decide⟩
theorem lkJ1_38 : JS RJ1 38 yJ9_min_7cf53 cJ9_min_7cf53 2 (some .int) 2 := ⟨kw_in (List.mem_of_getElem? (i := 800) (by decide +kernel)) (by decide +kernel), kw_in (List.mem_of_getElem? (i := 426) (by decide +kernel)) (by decide +kernel), inRJ9, kcJ9_min_7cf53, by decide +kernel, by decide⟩
theorem lkJ1_88 : JS RJ1 88 yJ1_canEncode_9a6ad cJ1_canEncode_9a6ad 1 (some .boolean) 1 := ⟨kw_in (List.mem_of_getElem? (i := 796) (by decide +kernel)) (by decide +kernel), kw_in (List.mem_of_getElem? (i := 797) (by decide +kernel)) (by decide +kernel), inRJ1, kcJ1_canEncode_9a6ad, by decide +kernel, by decide⟩
theorem lkJ1_92 : JS RJ1 92 yJ9_max_7cf53 cJ9_max_7cf53 2 (some .int) 2 := ⟨kw_in (List.mem_of_getElem? (i := 799) (by decide +kernel)) (by decide +kernel), kw_in (List.mem_of_getElem? (i := 429) (by decide +kernel)) (by decide +kernel), inRJ9, kcJ9_max_7cf53, by decide +kernel, by decide⟩
theorem lkJ1_95 : JS RJ1 95 yJ1_indexOfChar_4cfef cJ1_indexOfChar_4cfef 6 (some .int) 4 := ⟨kw_in (List.mem_of_getElem? (i := 801) (by decide +kernel)) (by decide +kernel), kw_in (List.mem_of_getElem? (i := 802) (by decide +kernel)) (by decide +kernel), inRJ1, kcJ1_indexOfChar_4cfef, by decide +kernel, by decide⟩
theorem ckJ11_76 : Cond.constant RJ11 76 (56320) ∈ kw := kw_in (List.mem_of_getElem? (i := 838) (by decide +kernel)) (by decide +kernel)
theorem ckJ11_110 : Cond.constant RJ11 110 (55232) ∈ kw := kw_in (List.mem_of_getElem? (i := 834) (by decide +kernel)) (by decide +kernel)
theorem flJ2_44 : Cond.fieldLink RJ2 44 "java/lang/StringUTF16" "$assertionsDisabled" "Z" ∈ kw := kw_in (List.mem_of_getElem? (i := 737) (by decide +kernel)) (by decide +kernel)
theorem lkJ2_48 : JS RJ2 48 yJ2_length_9d52b cJ2_length_9d52b 1 (some .int) 1 := ⟨kw_in (List.mem_of_getElem? (i := 730) (by decide +kernel)) (by decide +kernel), kw_in (List.mem_of_getElem? (i := 731) (by decide +kernel)) (by decide +kernel), inRJ2, kcJ2_length_9d52b, by decide +kernel, by decide⟩
theorem flJ2_59 : Cond.fieldLink RJ2 59 "java/lang/StringUTF16" "HI_BYTE_SHIFT" "I" ∈ kw := kw_in (List.mem_of_getElem? (i := 739) (by decide +kernel)) (by decide +kernel)
theorem flJ2_63 : Cond.fieldLink RJ2 63 "java/lang/StringUTF16" "LO_BYTE_SHIFT" "I" ∈ kw := kw_in (List.mem_of_getElem? (i := 741) (by decide +kernel)) (by decide +kernel)
theorem lkJ2_67 : JS RJ2 67 yJ2_checkIndex_2214a cJ2_checkIndex_2214a 2 none 2 := ⟨kw_in (List.mem_of_getElem? (i := 727) (by decide +kernel)) (by decide +kernel), kw_in (List.mem_of_getElem? (i := 728) (by decide +kernel)) (by decide +kernel), inRJ2, kcJ2_checkIndex_2214a, by decide +kernel, by decide⟩
theorem lkJ2_71 : JS RJ2 71 yJ2_getChar_3b067 cJ2_getChar_3b067 2 (some .char) 2 := ⟨kw_in (List.mem_of_getElem? (i := 734) (by decide +kernel)) (by decide +kernel), kw_in (List.mem_of_getElem? (i := 735) (by decide +kernel)) (by decide +kernel), inRJ2, kcJ2_getChar_3b067, by decide +kernel, by decide⟩
theorem lkJ2_96 : JS RJ2 96 yJ2_checkBoundsBeginEnd_d044e cJ2_checkBoundsBeginEnd_d044e 3 none 3 := ⟨kw_in (List.mem_of_getElem? (i := 813) (by decide +kernel)) (by decide +kernel), kw_in (List.mem_of_getElem? (i := 814) (by decide +kernel)) (by decide +kernel), inRJ2, kcJ2_checkBoundsBeginEnd_d044e, by decide +kernel, by decide⟩
theorem lkJ2_157 : JS RJ2 157 yJ11_highSurrogate_5068e cJ11_highSurrogate_5068e 1 (some .char) 1 := ⟨kw_in (List.mem_of_getElem? (i := 831) (by decide +kernel)) (by decide +kernel), kw_in (List.mem_of_getElem? (i := 832) (by decide +kernel)) (by decide +kernel), inRJ11, kcJ11_highSurrogate_5068e, by decide +kernel, by decide⟩
theorem lkJ2_161 : JS RJ2 161 yJ11_lowSurrogate_5068e cJ11_lowSurrogate_5068e 1 (some .char) 1 := ⟨kw_in (List.mem_of_getElem? (i := 835) (by decide +kernel)) (by decide +kernel), kw_in (List.mem_of_getElem? (i := 836) (by decide +kernel)) (by decide +kernel), inRJ11, kcJ11_lowSurrogate_5068e, by decide +kernel, by decide⟩
theorem lkJ2_164 : JS RJ2 164 yJ11_isValidCodePoint_9a6ad cJ11_isValidCodePoint_9a6ad 2 (some .boolean) 1 := ⟨kw_in (List.mem_of_getElem? (i := 828) (by decide +kernel)) (by decide +kernel), kw_in (List.mem_of_getElem? (i := 829) (by decide +kernel)) (by decide +kernel), inRJ11, kcJ11_isValidCodePoint_9a6ad, by decide +kernel, by decide⟩
theorem lkJ2_183 : JS RJ2 183 yJ9_min_7cf53 cJ9_min_7cf53 2 (some .int) 2 := ⟨kw_in (List.mem_of_getElem? (i := 808) (by decide +kernel)) (by decide +kernel), kw_in (List.mem_of_getElem? (i := 426) (by decide +kernel)) (by decide +kernel), inRJ9, kcJ9_min_7cf53, by decide +kernel, by decide⟩
theorem lkJ2_224 : JS RJ2 224 yJ9_max_7cf53 cJ9_max_7cf53 2 (some .int) 2 := ⟨kw_in (List.mem_of_getElem? (i := 807) (by decide +kernel)) (by decide +kernel), kw_in (List.mem_of_getElem? (i := 429) (by decide +kernel)) (by decide +kernel), inRJ9, kcJ9_max_7cf53, by decide +kernel, by decide⟩
theorem ckJ2_227 : Cond.constant RJ2 227 (65536) ∈ kw := kw_in (List.mem_of_getElem? (i := 809) (by decide +kernel)) (by decide +kernel)
theorem lkJ2_228 : JS RJ2 228 yJ2_indexOfChar_4cfef cJ2_indexOfChar_4cfef 4 (some .int) 4 := ⟨kw_in (List.mem_of_getElem? (i := 810) (by decide +kernel)) (by decide +kernel), kw_in (List.mem_of_getElem? (i := 811) (by decide +kernel)) (by decide +kernel), inRJ2, kcJ2_indexOfChar_4cfef, by decide +kernel, by decide⟩
theorem lkJ2_232 : JS RJ2 232 yJ2_indexOfSupplementary_4cfef cJ2_indexOfSupplementary_4cfef 7 (some .int) 4 := ⟨kw_in (List.mem_of_getElem? (i := 825) (by decide +kernel)) (by decide +kernel), kw_in (List.mem_of_getElem? (i := 826) (by decide +kernel)) (by decide +kernel), inRJ2, kcJ2_indexOfSupplementary_4cfef, by decide +kernel, by decide⟩
theorem lkJ2_241 : JS RJ2 241 yJ0_checkBoundsBeginEnd_23922 cJ0_checkBoundsBeginEnd_23922 3 none 3 := ⟨kw_in (List.mem_of_getElem? (i := 816) (by decide +kernel)) (by decide +kernel), kw_in (List.mem_of_getElem? (i := 817) (by decide +kernel)) (by decide +kernel), inRJ0, kcJ0_checkBoundsBeginEnd_23922, by decide +kernel, by decide⟩
theorem lkJ2_244 : JS RJ2 244 yJ2_indexOfCharUnsafe_4cfef cJ2_indexOfCharUnsafe_4cfef 5 (some .int) 4 := ⟨kw_in (List.mem_of_getElem? (i := 822) (by decide +kernel)) (by decide +kernel), kw_in (List.mem_of_getElem? (i := 823) (by decide +kernel)) (by decide +kernel), inRJ2, kcJ2_indexOfCharUnsafe_4cfef, by decide +kernel, by decide⟩
theorem lkJ2_414 : JS RJ2 414 yJ0_checkIndex_df160 cJ0_checkIndex_df160 2 none 2 := ⟨kw_in (List.mem_of_getElem? (i := 733) (by decide +kernel)) (by decide +kernel), kw_in (List.mem_of_getElem? (i := 717) (by decide +kernel)) (by decide +kernel), inRJ0, kcJ0_checkIndex_df160, by decide +kernel, by decide⟩
theorem ckJ6_265 : Cond.constant RJ6 265 (1431655765) ∈ kw := kw_in (List.mem_of_getElem? (i := 571) (by decide +kernel)) (by decide +kernel)
theorem ckJ6_266 : Cond.constant RJ6 266 (858993459) ∈ kw := kw_in (List.mem_of_getElem? (i := 572) (by decide +kernel)) (by decide +kernel)
theorem ckJ6_267 : Cond.constant RJ6 267 (252645135) ∈ kw := kw_in (List.mem_of_getElem? (i := 573) (by decide +kernel)) (by decide +kernel)
theorem lkJ7_150 : Cond.methodLink RJ7 150 arraycopyName ∈ kw := kw_in (List.mem_of_getElem? (i := 867) (by decide +kernel)) (by decide +kernel)
theorem lkJ7_304 : JS RJ7 304 yJ9_min_7cf53 cJ9_min_7cf53 2 (some .int) 2 := ⟨kw_in (List.mem_of_getElem? (i := 866) (by decide +kernel)) (by decide +kernel), kw_in (List.mem_of_getElem? (i := 426) (by decide +kernel)) (by decide +kernel), inRJ9, kcJ9_min_7cf53, by decide +kernel, by decide⟩
theorem clL_7 : Cond.classLink RL 7 RX8 ∈ kw := kw_in (List.mem_of_getElem? (i := 82) (by decide +kernel)) (by decide +kernel)
theorem nwL_7 {g : Cx} {cc : ByteArray} {nL : Nat} {ret : Option FieldType} {nm : String} {d kc ks rk rn pc : Nat} {lv : List (Option Value)} {st : List Value} {w : Wd} {Q : Option Value → Wd → Prop} (hd : decode cc pc = .ok (.new 7, 3)) (hrk : 1 ≤ rk ∧ 13 ≤ rn) (K : RR g RL cc nL ret nm d kc ks (rk - 1) (rn - 13) (pc + 3) lv (.ref (gb g + wn w) :: st) (pN w 8 0) Q) : RR g RL cc nL ret nm d kc ks rk rn pc lv st w Q :=
  jr_new (ci := 8) (C := RX8) (T := TX8) (N := 13) (ty0 := tyX8) clL_7 (instX8) inRX8 huX8 rfl (by decide) tyX8_ok (by decide +kernel) hrk hd K
theorem lkL_9 : Cond.methodLink RL 9 yX8_init ∈ kw ∧ Cond.instanceMethod yX8_init ∈ kw ∧ Cond.initialized yX8_init.cls ∈ kw ∧ Cond.code yX8_init cX8_init 2 none ∈ kw ∧ (yX8_init.cls ≠ "java/lang/invoke/MethodHandle" ∧ yX8_init.cls ≠ "java/lang/invoke/VarHandle" ∧ (parseMethodDescriptor yX8_init.desc).map (fun d => d.parameters.length) = some 0) ∧ 2 ≤ 21 ∧ yX8_init.name = "<init>" := ⟨kw_in (List.mem_of_getElem? (i := 84) (by decide +kernel)) (by decide +kernel), kw_in (List.mem_of_getElem? (i := 85) (by decide +kernel)) (by decide +kernel), inRX8, kcX8_init, by decide +kernel, by decide, rfl⟩
theorem clL_10 : Cond.classLink RL 10 RX9 ∈ kw := kw_in (List.mem_of_getElem? (i := 981) (by decide +kernel)) (by decide +kernel)
theorem nwL_10 {g : Cx} {cc : ByteArray} {nL : Nat} {ret : Option FieldType} {nm : String} {d kc ks rk rn pc : Nat} {lv : List (Option Value)} {st : List Value} {w : Wd} {Q : Option Value → Wd → Prop} (hd : decode cc pc = .ok (.new 10, 3)) (hrk : 1 ≤ rk ∧ 32 ≤ rn) (K : RR g RL cc nL ret nm d kc ks (rk - 1) (rn - 32) (pc + 3) lv (.ref (gb g + wn w) :: st) (pN w 9 0) Q) : RR g RL cc nL ret nm d kc ks rk rn pc lv st w Q :=
  jr_new (ci := 9) (C := RX9) (T := TX9) (N := 32) (ty0 := tyX9) clL_10 (instX9) inRX9 huX9 rfl (by decide) tyX9_ok (by decide +kernel) hrk hd K
theorem lkL_12 : Cond.methodLink RL 12 yX9_init ∈ kw ∧ Cond.instanceMethod yX9_init ∈ kw ∧ Cond.initialized yX9_init.cls ∈ kw ∧ Cond.code yX9_init cX9_init 2 none ∈ kw ∧ (yX9_init.cls ≠ "java/lang/invoke/MethodHandle" ∧ yX9_init.cls ≠ "java/lang/invoke/VarHandle" ∧ (parseMethodDescriptor yX9_init.desc).map (fun d => d.parameters.length) = some 0) ∧ 2 ≤ 21 ∧ yX9_init.name = "<init>" := ⟨kw_in (List.mem_of_getElem? (i := 983) (by decide +kernel)) (by decide +kernel), kw_in (List.mem_of_getElem? (i := 984) (by decide +kernel)) (by decide +kernel), inRX9, kcX9_init, by decide +kernel, by decide, rfl⟩
theorem lkL_13 : JV RL 13 yX8_clock cX8_clock 4 (some .int) 8 3 := ⟨kw_in (List.mem_of_getElem? (i := 365) (by decide +kernel)) (by decide +kernel), kw_in (List.mem_of_getElem? (i := 366) (by decide +kernel)) (by decide +kernel), kw_in (List.mem_of_getElem? (i := 367) (by decide +kernel)) (by decide +kernel), inRX8, kcX8_clock, ⟨_, rfl, rfl, by decide⟩, by decide +kernel, by decide⟩
theorem lkL_17 : JV RL 17 yX9_clock cX9_clock 4 (some .int) 9 3 := ⟨kw_in (List.mem_of_getElem? (i := 1084) (by decide +kernel)) (by decide +kernel), kw_in (List.mem_of_getElem? (i := 1085) (by decide +kernel)) (by decide +kernel), kw_in (List.mem_of_getElem? (i := 1086) (by decide +kernel)) (by decide +kernel), inRX9, kcX9_clock, ⟨_, rfl, rfl, by decide⟩, by decide +kernel, by decide⟩
theorem lkL_18 : JV RL 18 yX8_told cX8_told 4 (some .int) 8 2 := ⟨kw_in (List.mem_of_getElem? (i := 378) (by decide +kernel)) (by decide +kernel), kw_in (List.mem_of_getElem? (i := 379) (by decide +kernel)) (by decide +kernel), kw_in (List.mem_of_getElem? (i := 380) (by decide +kernel)) (by decide +kernel), inRX8, kcX8_told, ⟨_, rfl, rfl, by decide⟩, by decide +kernel, by decide⟩
theorem lkL_22 : JV RL 22 yX9_told cX9_told 5 (some .int) 9 2 := ⟨kw_in (List.mem_of_getElem? (i := 1104) (by decide +kernel)) (by decide +kernel), kw_in (List.mem_of_getElem? (i := 1105) (by decide +kernel)) (by decide +kernel), kw_in (List.mem_of_getElem? (i := 1106) (by decide +kernel)) (by decide +kernel), inRX9, kcX9_told, ⟨_, rfl, rfl, by decide⟩, by decide +kernel, by decide⟩
theorem lkL_23 : JV RL 23 yX8_as cX8_as 4 (some .int) 8 2 := ⟨kw_in (List.mem_of_getElem? (i := 446) (by decide +kernel)) (by decide +kernel), kw_in (List.mem_of_getElem? (i := 447) (by decide +kernel)) (by decide +kernel), kw_in (List.mem_of_getElem? (i := 448) (by decide +kernel)) (by decide +kernel), inRX8, kcX8_as, ⟨_, rfl, rfl, by decide⟩, by decide +kernel, by decide⟩
theorem lkL_26 : JV RL 26 yX9_as cX9_as 3 (some .int) 9 2 := ⟨kw_in (List.mem_of_getElem? (i := 1151) (by decide +kernel)) (by decide +kernel), kw_in (List.mem_of_getElem? (i := 1152) (by decide +kernel)) (by decide +kernel), kw_in (List.mem_of_getElem? (i := 1153) (by decide +kernel)) (by decide +kernel), inRX9, kcX9_as, ⟨_, rfl, rfl, by decide⟩, by decide +kernel, by decide⟩
theorem lkL_27 : JV RL 27 yX8_turns cX8_turns 5 (some .int) 8 2 := ⟨kw_in (List.mem_of_getElem? (i := 452) (by decide +kernel)) (by decide +kernel), kw_in (List.mem_of_getElem? (i := 453) (by decide +kernel)) (by decide +kernel), kw_in (List.mem_of_getElem? (i := 454) (by decide +kernel)) (by decide +kernel), inRX8, kcX8_turns, ⟨_, rfl, rfl, by decide⟩, by decide +kernel, by decide⟩
theorem lkL_30 : JV RL 30 yX9_turns cX9_turns 3 (some .int) 9 2 := ⟨kw_in (List.mem_of_getElem? (i := 1159) (by decide +kernel)) (by decide +kernel), kw_in (List.mem_of_getElem? (i := 1160) (by decide +kernel)) (by decide +kernel), kw_in (List.mem_of_getElem? (i := 1161) (by decide +kernel)) (by decide +kernel), inRX9, kcX9_turns, ⟨_, rfl, rfl, by decide⟩, by decide +kernel, by decide⟩
theorem lkL_31 : JV RL 31 yX8_set cX8_set 6 (some .int) 8 3 := ⟨kw_in (List.mem_of_getElem? (i := 456) (by decide +kernel)) (by decide +kernel), kw_in (List.mem_of_getElem? (i := 457) (by decide +kernel)) (by decide +kernel), kw_in (List.mem_of_getElem? (i := 458) (by decide +kernel)) (by decide +kernel), inRX8, kcX8_set, ⟨_, rfl, rfl, by decide⟩, by decide +kernel, by decide⟩
theorem lkL_34 : JV RL 34 yX9_set cX9_set 4 (some .int) 9 3 := ⟨kw_in (List.mem_of_getElem? (i := 1167) (by decide +kernel)) (by decide +kernel), kw_in (List.mem_of_getElem? (i := 1168) (by decide +kernel)) (by decide +kernel), kw_in (List.mem_of_getElem? (i := 1169) (by decide +kernel)) (by decide +kernel), inRX9, kcX9_set, ⟨_, rfl, rfl, by decide⟩, by decide +kernel, by decide⟩
theorem lkL_35 : JV RL 35 yX8_strokes cX8_strokes 3 (some .int) 8 2 := ⟨kw_in (List.mem_of_getElem? (i := 460) (by decide +kernel)) (by decide +kernel), kw_in (List.mem_of_getElem? (i := 461) (by decide +kernel)) (by decide +kernel), kw_in (List.mem_of_getElem? (i := 462) (by decide +kernel)) (by decide +kernel), inRX8, kcX8_strokes, ⟨_, rfl, rfl, by decide⟩, by decide +kernel, by decide⟩
theorem lkL_38 : JV RL 38 yX9_strokes cX9_strokes 3 (some .int) 9 2 := ⟨kw_in (List.mem_of_getElem? (i := 1172) (by decide +kernel)) (by decide +kernel), kw_in (List.mem_of_getElem? (i := 1173) (by decide +kernel)) (by decide +kernel), kw_in (List.mem_of_getElem? (i := 1174) (by decide +kernel)) (by decide +kernel), inRX9, kcX9_strokes, ⟨_, rfl, rfl, by decide⟩, by decide +kernel, by decide⟩
theorem lkL_39 : JV RL 39 yX8_total cX8_total 2 (some .int) 8 1 := ⟨kw_in (List.mem_of_getElem? (i := 464) (by decide +kernel)) (by decide +kernel), kw_in (List.mem_of_getElem? (i := 465) (by decide +kernel)) (by decide +kernel), kw_in (List.mem_of_getElem? (i := 466) (by decide +kernel)) (by decide +kernel), inRX8, kcX8_total, ⟨_, rfl, rfl, by decide⟩, by decide +kernel, by decide⟩
theorem lkL_43 : JV RL 43 yX9_total cX9_total 2 (some .int) 9 1 := ⟨kw_in (List.mem_of_getElem? (i := 1180) (by decide +kernel)) (by decide +kernel), kw_in (List.mem_of_getElem? (i := 1181) (by decide +kernel)) (by decide +kernel), kw_in (List.mem_of_getElem? (i := 1182) (by decide +kernel)) (by decide +kernel), inRX9, kcX9_total, ⟨_, rfl, rfl, by decide⟩, by decide +kernel, by decide⟩
theorem lkL_44 : JV RL 44 yX8_ear cX8_ear 4 (some .int) 8 2 := ⟨kw_in (List.mem_of_getElem? (i := 472) (by decide +kernel)) (by decide +kernel), kw_in (List.mem_of_getElem? (i := 473) (by decide +kernel)) (by decide +kernel), kw_in (List.mem_of_getElem? (i := 474) (by decide +kernel)) (by decide +kernel), inRX8, kcX8_ear, ⟨_, rfl, rfl, by decide⟩, by decide +kernel, by decide⟩
theorem lkL_47 : JV RL 47 yX9_ear cX9_ear 3 (some .int) 9 2 := ⟨kw_in (List.mem_of_getElem? (i := 1188) (by decide +kernel)) (by decide +kernel), kw_in (List.mem_of_getElem? (i := 1189) (by decide +kernel)) (by decide +kernel), kw_in (List.mem_of_getElem? (i := 1190) (by decide +kernel)) (by decide +kernel), inRX9, kcX9_ear, ⟨_, rfl, rfl, by decide⟩, by decide +kernel, by decide⟩
theorem lkL_48 : JV RL 48 yX8_deal cX8_deal 7 (some .int) 8 1 := ⟨kw_in (List.mem_of_getElem? (i := 476) (by decide +kernel)) (by decide +kernel), kw_in (List.mem_of_getElem? (i := 477) (by decide +kernel)) (by decide +kernel), kw_in (List.mem_of_getElem? (i := 478) (by decide +kernel)) (by decide +kernel), inRX8, kcX8_deal, ⟨_, rfl, rfl, by decide⟩, by decide +kernel, by decide⟩
theorem lkL_51 : JV RL 51 yX9_deal cX9_deal 5 (some .int) 9 1 := ⟨kw_in (List.mem_of_getElem? (i := 1193) (by decide +kernel)) (by decide +kernel), kw_in (List.mem_of_getElem? (i := 1194) (by decide +kernel)) (by decide +kernel), kw_in (List.mem_of_getElem? (i := 1195) (by decide +kernel)) (by decide +kernel), inRX9, kcX9_deal, ⟨_, rfl, rfl, by decide⟩, by decide +kernel, by decide⟩
theorem lkL_52 : JV RL 52 yX8_seed cX8_seed 3 (some .int) 8 1 := ⟨kw_in (List.mem_of_getElem? (i := 485) (by decide +kernel)) (by decide +kernel), kw_in (List.mem_of_getElem? (i := 486) (by decide +kernel)) (by decide +kernel), kw_in (List.mem_of_getElem? (i := 487) (by decide +kernel)) (by decide +kernel), inRX8, kcX8_seed, ⟨_, rfl, rfl, by decide⟩, by decide +kernel, by decide⟩
theorem lkL_55 : JV RL 55 yX9_seed cX9_seed 2 (some .int) 9 1 := ⟨kw_in (List.mem_of_getElem? (i := 1203) (by decide +kernel)) (by decide +kernel), kw_in (List.mem_of_getElem? (i := 1204) (by decide +kernel)) (by decide +kernel), kw_in (List.mem_of_getElem? (i := 1205) (by decide +kernel)) (by decide +kernel), inRX9, kcX9_seed, ⟨_, rfl, rfl, by decide⟩, by decide +kernel, by decide⟩
theorem lkL_56 : JV RL 56 yX8_minutes cX8_minutes 3 (some .int) 8 1 := ⟨kw_in (List.mem_of_getElem? (i := 489) (by decide +kernel)) (by decide +kernel), kw_in (List.mem_of_getElem? (i := 490) (by decide +kernel)) (by decide +kernel), kw_in (List.mem_of_getElem? (i := 491) (by decide +kernel)) (by decide +kernel), inRX8, kcX8_minutes, ⟨_, rfl, rfl, by decide⟩, by decide +kernel, by decide⟩
theorem lkL_59 : JV RL 59 yX9_minutes cX9_minutes 4 (some .int) 9 1 := ⟨kw_in (List.mem_of_getElem? (i := 1207) (by decide +kernel)) (by decide +kernel), kw_in (List.mem_of_getElem? (i := 1208) (by decide +kernel)) (by decide +kernel), kw_in (List.mem_of_getElem? (i := 1209) (by decide +kernel)) (by decide +kernel), inRX9, kcX9_minutes, ⟨_, rfl, rfl, by decide⟩, by decide +kernel, by decide⟩
theorem lkL_60 : JV RL 60 yX8_bed cX8_bed 2 (some .int) 8 1 := ⟨kw_in (List.mem_of_getElem? (i := 508) (by decide +kernel)) (by decide +kernel), kw_in (List.mem_of_getElem? (i := 509) (by decide +kernel)) (by decide +kernel), kw_in (List.mem_of_getElem? (i := 510) (by decide +kernel)) (by decide +kernel), inRX8, kcX8_bed, ⟨_, rfl, rfl, by decide⟩, by decide +kernel, by decide⟩
theorem lkL_63 : JV RL 63 yX9_bed cX9_bed 2 (some .int) 9 1 := ⟨kw_in (List.mem_of_getElem? (i := 1219) (by decide +kernel)) (by decide +kernel), kw_in (List.mem_of_getElem? (i := 1220) (by decide +kernel)) (by decide +kernel), kw_in (List.mem_of_getElem? (i := 1221) (by decide +kernel)) (by decide +kernel), inRX9, kcX9_bed, ⟨_, rfl, rfl, by decide⟩, by decide +kernel, by decide⟩
theorem lkL_64 : JV RL 64 yX8_note cX8_note 2 (some .int) 8 1 := ⟨kw_in (List.mem_of_getElem? (i := 517) (by decide +kernel)) (by decide +kernel), kw_in (List.mem_of_getElem? (i := 518) (by decide +kernel)) (by decide +kernel), kw_in (List.mem_of_getElem? (i := 519) (by decide +kernel)) (by decide +kernel), inRX8, kcX8_note, ⟨_, rfl, rfl, by decide⟩, by decide +kernel, by decide⟩
theorem lkL_67 : JV RL 67 yX9_note cX9_note 2 (some .int) 9 1 := ⟨kw_in (List.mem_of_getElem? (i := 1224) (by decide +kernel)) (by decide +kernel), kw_in (List.mem_of_getElem? (i := 1225) (by decide +kernel)) (by decide +kernel), kw_in (List.mem_of_getElem? (i := 1226) (by decide +kernel)) (by decide +kernel), inRX9, kcX9_note, ⟨_, rfl, rfl, by decide⟩, by decide +kernel, by decide⟩
theorem lkL_68 : JV RL 68 yX8_fits cX8_fits 3 (some .int) 8 1 := ⟨kw_in (List.mem_of_getElem? (i := 522) (by decide +kernel)) (by decide +kernel), kw_in (List.mem_of_getElem? (i := 523) (by decide +kernel)) (by decide +kernel), kw_in (List.mem_of_getElem? (i := 524) (by decide +kernel)) (by decide +kernel), inRX8, kcX8_fits, ⟨_, rfl, rfl, by decide⟩, by decide +kernel, by decide⟩
theorem lkL_71 : JV RL 71 yX9_fits cX9_fits 2 (some .int) 9 1 := ⟨kw_in (List.mem_of_getElem? (i := 1230) (by decide +kernel)) (by decide +kernel), kw_in (List.mem_of_getElem? (i := 1231) (by decide +kernel)) (by decide +kernel), kw_in (List.mem_of_getElem? (i := 1232) (by decide +kernel)) (by decide +kernel), inRX9, kcX9_fits, ⟨_, rfl, rfl, by decide⟩, by decide +kernel, by decide⟩
theorem lkL_72 : JV RL 72 yX8_may cX8_may 2 (some .int) 8 1 := ⟨kw_in (List.mem_of_getElem? (i := 531) (by decide +kernel)) (by decide +kernel), kw_in (List.mem_of_getElem? (i := 532) (by decide +kernel)) (by decide +kernel), kw_in (List.mem_of_getElem? (i := 533) (by decide +kernel)) (by decide +kernel), inRX8, kcX8_may, ⟨_, rfl, rfl, by decide⟩, by decide +kernel, by decide⟩
theorem lkL_75 : JV RL 75 yX9_may cX9_may 3 (some .int) 9 1 := ⟨kw_in (List.mem_of_getElem? (i := 1242) (by decide +kernel)) (by decide +kernel), kw_in (List.mem_of_getElem? (i := 1243) (by decide +kernel)) (by decide +kernel), kw_in (List.mem_of_getElem? (i := 1244) (by decide +kernel)) (by decide +kernel), inRX9, kcX9_may, ⟨_, rfl, rfl, by decide⟩, by decide +kernel, by decide⟩
theorem lkL_76 : JV RL 76 yX8_next cX8_next 2 (some .int) 8 0 := ⟨kw_in (List.mem_of_getElem? (i := 574) (by decide +kernel)) (by decide +kernel), kw_in (List.mem_of_getElem? (i := 575) (by decide +kernel)) (by decide +kernel), kw_in (List.mem_of_getElem? (i := 576) (by decide +kernel)) (by decide +kernel), inRX8, kcX8_next, ⟨_, rfl, rfl, by decide⟩, by decide +kernel, by decide⟩
theorem lkL_80 : JV RL 80 yX9_next cX9_next 2 (some .int) 9 0 := ⟨kw_in (List.mem_of_getElem? (i := 1258) (by decide +kernel)) (by decide +kernel), kw_in (List.mem_of_getElem? (i := 1259) (by decide +kernel)) (by decide +kernel), kw_in (List.mem_of_getElem? (i := 1260) (by decide +kernel)) (by decide +kernel), inRX9, kcX9_next, ⟨_, rfl, rfl, by decide⟩, by decide +kernel, by decide⟩
theorem lkL_81 : JV RL 81 yX8_parts cX8_parts 7 (some .int) 8 2 := ⟨kw_in (List.mem_of_getElem? (i := 578) (by decide +kernel)) (by decide +kernel), kw_in (List.mem_of_getElem? (i := 579) (by decide +kernel)) (by decide +kernel), kw_in (List.mem_of_getElem? (i := 580) (by decide +kernel)) (by decide +kernel), inRX8, kcX8_parts, ⟨_, rfl, rfl, by decide⟩, by decide +kernel, by decide⟩
theorem lkL_84 : JV RL 84 yX9_parts cX9_parts 7 (some .int) 9 2 := ⟨kw_in (List.mem_of_getElem? (i := 1262) (by decide +kernel)) (by decide +kernel), kw_in (List.mem_of_getElem? (i := 1263) (by decide +kernel)) (by decide +kernel), kw_in (List.mem_of_getElem? (i := 1264) (by decide +kernel)) (by decide +kernel), inRX9, kcX9_parts, ⟨_, rfl, rfl, by decide⟩, by decide +kernel, by decide⟩
theorem lkL_85 : JV RL 85 yX8_astray cX8_astray 6 (some .int) 8 1 := ⟨kw_in (List.mem_of_getElem? (i := 582) (by decide +kernel)) (by decide +kernel), kw_in (List.mem_of_getElem? (i := 583) (by decide +kernel)) (by decide +kernel), kw_in (List.mem_of_getElem? (i := 584) (by decide +kernel)) (by decide +kernel), inRX8, kcX8_astray, ⟨_, rfl, rfl, by decide⟩, by decide +kernel, by decide⟩
theorem lkL_88 : JV RL 88 yX9_astray cX9_astray 6 (some .int) 9 1 := ⟨kw_in (List.mem_of_getElem? (i := 1266) (by decide +kernel)) (by decide +kernel), kw_in (List.mem_of_getElem? (i := 1267) (by decide +kernel)) (by decide +kernel), kw_in (List.mem_of_getElem? (i := 1268) (by decide +kernel)) (by decide +kernel), inRX9, kcX9_astray, ⟨_, rfl, rfl, by decide⟩, by decide +kernel, by decide⟩
theorem lkL_89 : JV RL 89 yX8_right cX8_right 7 (some .int) 8 2 := ⟨kw_in (List.mem_of_getElem? (i := 587) (by decide +kernel)) (by decide +kernel), kw_in (List.mem_of_getElem? (i := 588) (by decide +kernel)) (by decide +kernel), kw_in (List.mem_of_getElem? (i := 589) (by decide +kernel)) (by decide +kernel), inRX8, kcX8_right, ⟨_, rfl, rfl, by decide⟩, by decide +kernel, by decide⟩
theorem lkL_92 : JV RL 92 yX9_right cX9_right 8 (some .int) 9 2 := ⟨kw_in (List.mem_of_getElem? (i := 1274) (by decide +kernel)) (by decide +kernel), kw_in (List.mem_of_getElem? (i := 1275) (by decide +kernel)) (by decide +kernel), kw_in (List.mem_of_getElem? (i := 1276) (by decide +kernel)) (by decide +kernel), inRX9, kcX9_right, ⟨_, rfl, rfl, by decide⟩, by decide +kernel, by decide⟩
theorem lkL_93 : JV RL 93 yX8_telling cX8_telling 1 (some .int) 8 0 := ⟨kw_in (List.mem_of_getElem? (i := 591) (by decide +kernel)) (by decide +kernel), kw_in (List.mem_of_getElem? (i := 592) (by decide +kernel)) (by decide +kernel), kw_in (List.mem_of_getElem? (i := 593) (by decide +kernel)) (by decide +kernel), inRX8, kcX8_telling, ⟨_, rfl, rfl, by decide⟩, by decide +kernel, by decide⟩
theorem lkL_96 : JV RL 96 yX9_telling cX9_telling 8 (some .int) 9 0 := ⟨kw_in (List.mem_of_getElem? (i := 1278) (by decide +kernel)) (by decide +kernel), kw_in (List.mem_of_getElem? (i := 1279) (by decide +kernel)) (by decide +kernel), kw_in (List.mem_of_getElem? (i := 1280) (by decide +kernel)) (by decide +kernel), inRX9, kcX9_telling, ⟨_, rfl, rfl, by decide⟩, by decide +kernel, by decide⟩
theorem lkL_97 : JV RL 97 yX8_like cX8_like 8 (some .int) 8 2 := ⟨kw_in (List.mem_of_getElem? (i := 611) (by decide +kernel)) (by decide +kernel), kw_in (List.mem_of_getElem? (i := 612) (by decide +kernel)) (by decide +kernel), kw_in (List.mem_of_getElem? (i := 613) (by decide +kernel)) (by decide +kernel), inRX8, kcX8_like, ⟨_, rfl, rfl, by decide⟩, by decide +kernel, by decide⟩
theorem lkL_100 : JV RL 100 yX9_like cX9_like 7 (some .int) 9 2 := ⟨kw_in (List.mem_of_getElem? (i := 1282) (by decide +kernel)) (by decide +kernel), kw_in (List.mem_of_getElem? (i := 1283) (by decide +kernel)) (by decide +kernel), kw_in (List.mem_of_getElem? (i := 1284) (by decide +kernel)) (by decide +kernel), inRX9, kcX9_like, ⟨_, rfl, rfl, by decide⟩, by decide +kernel, by decide⟩
theorem lkL_101 : JV RL 101 yX8_behind cX8_behind 3 (some .int) 8 2 := ⟨kw_in (List.mem_of_getElem? (i := 629) (by decide +kernel)) (by decide +kernel), kw_in (List.mem_of_getElem? (i := 630) (by decide +kernel)) (by decide +kernel), kw_in (List.mem_of_getElem? (i := 631) (by decide +kernel)) (by decide +kernel), inRX8, kcX8_behind, ⟨_, rfl, rfl, by decide⟩, by decide +kernel, by decide⟩
theorem lkL_104 : JV RL 104 yX9_behind cX9_behind 4 (some .int) 9 2 := ⟨kw_in (List.mem_of_getElem? (i := 1297) (by decide +kernel)) (by decide +kernel), kw_in (List.mem_of_getElem? (i := 1298) (by decide +kernel)) (by decide +kernel), kw_in (List.mem_of_getElem? (i := 1299) (by decide +kernel)) (by decide +kernel), inRX9, kcX9_behind, ⟨_, rfl, rfl, by decide⟩, by decide +kernel, by decide⟩
theorem lkL_105 : JV RL 105 yX8_listen cX8_listen 2 (some .int) 8 0 := ⟨kw_in (List.mem_of_getElem? (i := 641) (by decide +kernel)) (by decide +kernel), kw_in (List.mem_of_getElem? (i := 642) (by decide +kernel)) (by decide +kernel), kw_in (List.mem_of_getElem? (i := 643) (by decide +kernel)) (by decide +kernel), inRX8, kcX8_listen, ⟨_, rfl, rfl, by decide⟩, by decide +kernel, by decide⟩
theorem lkL_108 : JV RL 108 yX9_listen cX9_listen 2 (some .int) 9 0 := ⟨kw_in (List.mem_of_getElem? (i := 1309) (by decide +kernel)) (by decide +kernel), kw_in (List.mem_of_getElem? (i := 1310) (by decide +kernel)) (by decide +kernel), kw_in (List.mem_of_getElem? (i := 1311) (by decide +kernel)) (by decide +kernel), inRX9, kcX9_listen, ⟨_, rfl, rfl, by decide⟩, by decide +kernel, by decide⟩
theorem lkL_109 : JV RL 109 yX8_fee cX8_fee 2 (some .int) 8 0 := ⟨kw_in (List.mem_of_getElem? (i := 645) (by decide +kernel)) (by decide +kernel), kw_in (List.mem_of_getElem? (i := 646) (by decide +kernel)) (by decide +kernel), kw_in (List.mem_of_getElem? (i := 647) (by decide +kernel)) (by decide +kernel), inRX8, kcX8_fee, ⟨_, rfl, rfl, by decide⟩, by decide +kernel, by decide⟩
theorem lkL_112 : JV RL 112 yX9_fee cX9_fee 2 (some .int) 9 0 := ⟨kw_in (List.mem_of_getElem? (i := 1313) (by decide +kernel)) (by decide +kernel), kw_in (List.mem_of_getElem? (i := 1314) (by decide +kernel)) (by decide +kernel), kw_in (List.mem_of_getElem? (i := 1315) (by decide +kernel)) (by decide +kernel), inRX9, kcX9_fee, ⟨_, rfl, rfl, by decide⟩, by decide +kernel, by decide⟩
theorem lkL_113 : JV RL 113 yX8_fine cX8_fine 4 (some .int) 8 1 := ⟨kw_in (List.mem_of_getElem? (i := 651) (by decide +kernel)) (by decide +kernel), kw_in (List.mem_of_getElem? (i := 652) (by decide +kernel)) (by decide +kernel), kw_in (List.mem_of_getElem? (i := 653) (by decide +kernel)) (by decide +kernel), inRX8, kcX8_fine, ⟨_, rfl, rfl, by decide⟩, by decide +kernel, by decide⟩
theorem lkL_116 : JV RL 116 yX9_fine cX9_fine 3 (some .int) 9 1 := ⟨kw_in (List.mem_of_getElem? (i := 1317) (by decide +kernel)) (by decide +kernel), kw_in (List.mem_of_getElem? (i := 1318) (by decide +kernel)) (by decide +kernel), kw_in (List.mem_of_getElem? (i := 1319) (by decide +kernel)) (by decide +kernel), inRX9, kcX9_fine, ⟨_, rfl, rfl, by decide⟩, by decide +kernel, by decide⟩
theorem lkL_117 : JV RL 117 yX8_feed cX8_feed 4 (some .int) 8 3 := ⟨kw_in (List.mem_of_getElem? (i := 655) (by decide +kernel)) (by decide +kernel), kw_in (List.mem_of_getElem? (i := 656) (by decide +kernel)) (by decide +kernel), kw_in (List.mem_of_getElem? (i := 657) (by decide +kernel)) (by decide +kernel), inRX8, kcX8_feed, ⟨_, rfl, rfl, by decide⟩, by decide +kernel, by decide⟩
theorem lkL_120 : JV RL 120 yX9_feed cX9_feed 6 (some .int) 9 3 := ⟨kw_in (List.mem_of_getElem? (i := 1321) (by decide +kernel)) (by decide +kernel), kw_in (List.mem_of_getElem? (i := 1322) (by decide +kernel)) (by decide +kernel), kw_in (List.mem_of_getElem? (i := 1323) (by decide +kernel)) (by decide +kernel), inRX9, kcX9_feed, ⟨_, rfl, rfl, by decide⟩, by decide +kernel, by decide⟩
theorem lkL_121 : JV RL 121 yX8_trim cX8_trim 2 (some .int) 8 1 := ⟨kw_in (List.mem_of_getElem? (i := 663) (by decide +kernel)) (by decide +kernel), kw_in (List.mem_of_getElem? (i := 664) (by decide +kernel)) (by decide +kernel), kw_in (List.mem_of_getElem? (i := 665) (by decide +kernel)) (by decide +kernel), inRX8, kcX8_trim, ⟨_, rfl, rfl, by decide⟩, by decide +kernel, by decide⟩
theorem lkL_124 : JV RL 124 yX9_trim cX9_trim 2 (some .int) 9 1 := ⟨kw_in (List.mem_of_getElem? (i := 1325) (by decide +kernel)) (by decide +kernel), kw_in (List.mem_of_getElem? (i := 1326) (by decide +kernel)) (by decide +kernel), kw_in (List.mem_of_getElem? (i := 1327) (by decide +kernel)) (by decide +kernel), inRX9, kcX9_trim, ⟨_, rfl, rfl, by decide⟩, by decide +kernel, by decide⟩
theorem lkL_125 : JV RL 125 yX8_text cX8_text 2 (some .int) 8 0 := ⟨kw_in (List.mem_of_getElem? (i := 667) (by decide +kernel)) (by decide +kernel), kw_in (List.mem_of_getElem? (i := 668) (by decide +kernel)) (by decide +kernel), kw_in (List.mem_of_getElem? (i := 669) (by decide +kernel)) (by decide +kernel), inRX8, kcX8_text, ⟨_, rfl, rfl, by decide⟩, by decide +kernel, by decide⟩
theorem lkL_128 : JV RL 128 yX9_text cX9_text 3 (some .int) 9 0 := ⟨kw_in (List.mem_of_getElem? (i := 1329) (by decide +kernel)) (by decide +kernel), kw_in (List.mem_of_getElem? (i := 1330) (by decide +kernel)) (by decide +kernel), kw_in (List.mem_of_getElem? (i := 1331) (by decide +kernel)) (by decide +kernel), inRX9, kcX9_text, ⟨_, rfl, rfl, by decide⟩, by decide +kernel, by decide⟩
theorem lkL_129 : JV RL 129 yX8_textTold cX8_textTold 4 (some .int) 8 2 := ⟨kw_in (List.mem_of_getElem? (i := 892) (by decide +kernel)) (by decide +kernel), kw_in (List.mem_of_getElem? (i := 893) (by decide +kernel)) (by decide +kernel), kw_in (List.mem_of_getElem? (i := 894) (by decide +kernel)) (by decide +kernel), inRX8, kcX8_textTold, ⟨_, rfl, rfl, by decide⟩, by decide +kernel, by decide⟩
theorem lkL_132 : JV RL 132 yX9_textTold cX9_textTold 3 (some .int) 9 2 := ⟨kw_in (List.mem_of_getElem? (i := 1400) (by decide +kernel)) (by decide +kernel), kw_in (List.mem_of_getElem? (i := 1401) (by decide +kernel)) (by decide +kernel), kw_in (List.mem_of_getElem? (i := 1402) (by decide +kernel)) (by decide +kernel), inRX9, kcX9_textTold, ⟨_, rfl, rfl, by decide⟩, by decide +kernel, by decide⟩
theorem lkL_133 : JV RL 133 yX8_why cX8_why 2 (some .int) 8 1 := ⟨kw_in (List.mem_of_getElem? (i := 897) (by decide +kernel)) (by decide +kernel), kw_in (List.mem_of_getElem? (i := 898) (by decide +kernel)) (by decide +kernel), kw_in (List.mem_of_getElem? (i := 899) (by decide +kernel)) (by decide +kernel), inRX8, kcX8_why, ⟨_, rfl, rfl, by decide⟩, by decide +kernel, by decide⟩
theorem lkL_136 : JV RL 136 yX9_why cX9_why 2 (some .int) 9 1 := ⟨kw_in (List.mem_of_getElem? (i := 1408) (by decide +kernel)) (by decide +kernel), kw_in (List.mem_of_getElem? (i := 1409) (by decide +kernel)) (by decide +kernel), kw_in (List.mem_of_getElem? (i := 1410) (by decide +kernel)) (by decide +kernel), inRX9, kcX9_why, ⟨_, rfl, rfl, by decide⟩, by decide +kernel, by decide⟩
theorem lkL_137 : JV RL 137 yX8_sheet cX8_sheet 4 (some .int) 8 3 := ⟨kw_in (List.mem_of_getElem? (i := 901) (by decide +kernel)) (by decide +kernel), kw_in (List.mem_of_getElem? (i := 902) (by decide +kernel)) (by decide +kernel), kw_in (List.mem_of_getElem? (i := 903) (by decide +kernel)) (by decide +kernel), inRX8, kcX8_sheet, ⟨_, rfl, rfl, by decide⟩, by decide +kernel, by decide⟩
theorem lkL_140 : JV RL 140 yX9_sheet cX9_sheet 5 (some .int) 9 3 := ⟨kw_in (List.mem_of_getElem? (i := 1415) (by decide +kernel)) (by decide +kernel), kw_in (List.mem_of_getElem? (i := 1416) (by decide +kernel)) (by decide +kernel), kw_in (List.mem_of_getElem? (i := 1417) (by decide +kernel)) (by decide +kernel), inRX9, kcX9_sheet, ⟨_, rfl, rfl, by decide⟩, by decide +kernel, by decide⟩
theorem lkL_141 : JV RL 141 yX8_mark cX8_mark 5 (some .int) 8 3 := ⟨kw_in (List.mem_of_getElem? (i := 912) (by decide +kernel)) (by decide +kernel), kw_in (List.mem_of_getElem? (i := 913) (by decide +kernel)) (by decide +kernel), kw_in (List.mem_of_getElem? (i := 914) (by decide +kernel)) (by decide +kernel), inRX8, kcX8_mark, ⟨_, rfl, rfl, by decide⟩, by decide +kernel, by decide⟩
theorem lkL_144 : JV RL 144 yX9_mark cX9_mark 4 (some .int) 9 3 := ⟨kw_in (List.mem_of_getElem? (i := 1421) (by decide +kernel)) (by decide +kernel), kw_in (List.mem_of_getElem? (i := 1422) (by decide +kernel)) (by decide +kernel), kw_in (List.mem_of_getElem? (i := 1423) (by decide +kernel)) (by decide +kernel), inRX9, kcX9_mark, ⟨_, rfl, rfl, by decide⟩, by decide +kernel, by decide⟩
theorem lkL_145 : JV RL 145 yX8_pour cX8_pour 6 (some .int) 8 1 := ⟨kw_in (List.mem_of_getElem? (i := 919) (by decide +kernel)) (by decide +kernel), kw_in (List.mem_of_getElem? (i := 920) (by decide +kernel)) (by decide +kernel), kw_in (List.mem_of_getElem? (i := 921) (by decide +kernel)) (by decide +kernel), inRX8, kcX8_pour, ⟨_, rfl, rfl, by decide⟩, by decide +kernel, by decide⟩
theorem lkL_148 : JV RL 148 yX9_pour cX9_pour 6 (some .int) 9 1 := ⟨kw_in (List.mem_of_getElem? (i := 1428) (by decide +kernel)) (by decide +kernel), kw_in (List.mem_of_getElem? (i := 1429) (by decide +kernel)) (by decide +kernel), kw_in (List.mem_of_getElem? (i := 1430) (by decide +kernel)) (by decide +kernel), inRX9, kcX9_pour, ⟨_, rfl, rfl, by decide⟩, by decide +kernel, by decide⟩
theorem lkL_149 : JV RL 149 yX8_reads cX8_reads 6 (some .int) 8 1 := ⟨kw_in (List.mem_of_getElem? (i := 925) (by decide +kernel)) (by decide +kernel), kw_in (List.mem_of_getElem? (i := 926) (by decide +kernel)) (by decide +kernel), kw_in (List.mem_of_getElem? (i := 927) (by decide +kernel)) (by decide +kernel), inRX8, kcX8_reads, ⟨_, rfl, rfl, by decide⟩, by decide +kernel, by decide⟩
theorem lkL_152 : JV RL 152 yX9_reads cX9_reads 4 (some .int) 9 1 := ⟨kw_in (List.mem_of_getElem? (i := 1435) (by decide +kernel)) (by decide +kernel), kw_in (List.mem_of_getElem? (i := 1436) (by decide +kernel)) (by decide +kernel), kw_in (List.mem_of_getElem? (i := 1437) (by decide +kernel)) (by decide +kernel), inRX9, kcX9_reads, ⟨_, rfl, rfl, by decide⟩, by decide +kernel, by decide⟩
theorem lkL_153 : JV RL 153 yX8_copy cX8_copy 8 (some .int) 8 5 := ⟨kw_in (List.mem_of_getElem? (i := 929) (by decide +kernel)) (by decide +kernel), kw_in (List.mem_of_getElem? (i := 930) (by decide +kernel)) (by decide +kernel), kw_in (List.mem_of_getElem? (i := 931) (by decide +kernel)) (by decide +kernel), inRX8, kcX8_copy, ⟨_, rfl, rfl, by decide⟩, by decide +kernel, by decide⟩
theorem lkL_157 : JV RL 157 yX9_copy cX9_copy 7 (some .int) 9 5 := ⟨kw_in (List.mem_of_getElem? (i := 1439) (by decide +kernel)) (by decide +kernel), kw_in (List.mem_of_getElem? (i := 1440) (by decide +kernel)) (by decide +kernel), kw_in (List.mem_of_getElem? (i := 1441) (by decide +kernel)) (by decide +kernel), inRX9, kcX9_copy, ⟨_, rfl, rfl, by decide⟩, by decide +kernel, by decide⟩
theorem lkL_158 : JV RL 158 yX8_lay cX8_lay 6 (some .int) 8 3 := ⟨kw_in (List.mem_of_getElem? (i := 938) (by decide +kernel)) (by decide +kernel), kw_in (List.mem_of_getElem? (i := 939) (by decide +kernel)) (by decide +kernel), kw_in (List.mem_of_getElem? (i := 940) (by decide +kernel)) (by decide +kernel), inRX8, kcX8_lay, ⟨_, rfl, rfl, by decide⟩, by decide +kernel, by decide⟩
theorem lkL_161 : JV RL 161 yX9_lay cX9_lay 7 (some .int) 9 3 := ⟨kw_in (List.mem_of_getElem? (i := 1443) (by decide +kernel)) (by decide +kernel), kw_in (List.mem_of_getElem? (i := 1444) (by decide +kernel)) (by decide +kernel), kw_in (List.mem_of_getElem? (i := 1445) (by decide +kernel)) (by decide +kernel), inRX9, kcX9_lay, ⟨_, rfl, rfl, by decide⟩, by decide +kernel, by decide⟩
theorem lkL_162 : JV RL 162 yX8_ask cX8_ask 4 (some .int) 8 2 := ⟨kw_in (List.mem_of_getElem? (i := 948) (by decide +kernel)) (by decide +kernel), kw_in (List.mem_of_getElem? (i := 949) (by decide +kernel)) (by decide +kernel), kw_in (List.mem_of_getElem? (i := 950) (by decide +kernel)) (by decide +kernel), inRX8, kcX8_ask, ⟨_, rfl, rfl, by decide⟩, by decide +kernel, by decide⟩
theorem lkL_165 : JV RL 165 yX9_ask cX9_ask 3 (some .int) 9 2 := ⟨kw_in (List.mem_of_getElem? (i := 1451) (by decide +kernel)) (by decide +kernel), kw_in (List.mem_of_getElem? (i := 1452) (by decide +kernel)) (by decide +kernel), kw_in (List.mem_of_getElem? (i := 1453) (by decide +kernel)) (by decide +kernel), inRX9, kcX9_ask, ⟨_, rfl, rfl, by decide⟩, by decide +kernel, by decide⟩
theorem lkL_166 : JV RL 166 yX8_item cX8_item 4 (some .int) 8 2 := ⟨kw_in (List.mem_of_getElem? (i := 952) (by decide +kernel)) (by decide +kernel), kw_in (List.mem_of_getElem? (i := 953) (by decide +kernel)) (by decide +kernel), kw_in (List.mem_of_getElem? (i := 954) (by decide +kernel)) (by decide +kernel), inRX8, kcX8_item, ⟨_, rfl, rfl, by decide⟩, by decide +kernel, by decide⟩
theorem lkL_169 : JV RL 169 yX9_item cX9_item 4 (some .int) 9 2 := ⟨kw_in (List.mem_of_getElem? (i := 1455) (by decide +kernel)) (by decide +kernel), kw_in (List.mem_of_getElem? (i := 1456) (by decide +kernel)) (by decide +kernel), kw_in (List.mem_of_getElem? (i := 1457) (by decide +kernel)) (by decide +kernel), inRX9, kcX9_item, ⟨_, rfl, rfl, by decide⟩, by decide +kernel, by decide⟩
theorem lkL_170 : JV RL 170 yX8_rest cX8_rest 4 (some .int) 8 2 := ⟨kw_in (List.mem_of_getElem? (i := 956) (by decide +kernel)) (by decide +kernel), kw_in (List.mem_of_getElem? (i := 957) (by decide +kernel)) (by decide +kernel), kw_in (List.mem_of_getElem? (i := 958) (by decide +kernel)) (by decide +kernel), inRX8, kcX8_rest, ⟨_, rfl, rfl, by decide⟩, by decide +kernel, by decide⟩
theorem lkL_173 : JV RL 173 yX9_rest cX9_rest 3 (some .int) 9 2 := ⟨kw_in (List.mem_of_getElem? (i := 1459) (by decide +kernel)) (by decide +kernel), kw_in (List.mem_of_getElem? (i := 1460) (by decide +kernel)) (by decide +kernel), kw_in (List.mem_of_getElem? (i := 1461) (by decide +kernel)) (by decide +kernel), inRX9, kcX9_rest, ⟨_, rfl, rfl, by decide⟩, by decide +kernel, by decide⟩
theorem lkL_174 : JV RL 174 yX8_tell cX8_tell 2 (some .int) 8 1 := ⟨kw_in (List.mem_of_getElem? (i := 961) (by decide +kernel)) (by decide +kernel), kw_in (List.mem_of_getElem? (i := 962) (by decide +kernel)) (by decide +kernel), kw_in (List.mem_of_getElem? (i := 963) (by decide +kernel)) (by decide +kernel), inRX8, kcX8_tell, ⟨_, rfl, rfl, by decide⟩, by decide +kernel, by decide⟩
theorem lkL_177 : JV RL 177 yX9_tell cX9_tell 2 (some .int) 9 1 := ⟨kw_in (List.mem_of_getElem? (i := 1464) (by decide +kernel)) (by decide +kernel), kw_in (List.mem_of_getElem? (i := 1465) (by decide +kernel)) (by decide +kernel), kw_in (List.mem_of_getElem? (i := 1466) (by decide +kernel)) (by decide +kernel), inRX9, kcX9_tell, ⟨_, rfl, rfl, by decide⟩, by decide +kernel, by decide⟩
theorem lkL_178 : JV RL 178 yX8_check cX8_check 6 (some .int) 8 1 := ⟨kw_in (List.mem_of_getElem? (i := 965) (by decide +kernel)) (by decide +kernel), kw_in (List.mem_of_getElem? (i := 966) (by decide +kernel)) (by decide +kernel), kw_in (List.mem_of_getElem? (i := 967) (by decide +kernel)) (by decide +kernel), inRX8, kcX8_check, ⟨_, rfl, rfl, by decide⟩, by decide +kernel, by decide⟩
theorem lkL_181 : JV RL 181 yX9_check cX9_check 5 (some .int) 9 1 := ⟨kw_in (List.mem_of_getElem? (i := 1468) (by decide +kernel)) (by decide +kernel), kw_in (List.mem_of_getElem? (i := 1469) (by decide +kernel)) (by decide +kernel), kw_in (List.mem_of_getElem? (i := 1470) (by decide +kernel)) (by decide +kernel), inRX9, kcX9_check, ⟨_, rfl, rfl, by decide⟩, by decide +kernel, by decide⟩
theorem lkL_182 : JV RL 182 yX8_keep cX8_keep 1 (some .int) 8 0 := ⟨kw_in (List.mem_of_getElem? (i := 969) (by decide +kernel)) (by decide +kernel), kw_in (List.mem_of_getElem? (i := 970) (by decide +kernel)) (by decide +kernel), kw_in (List.mem_of_getElem? (i := 971) (by decide +kernel)) (by decide +kernel), inRX8, kcX8_keep, ⟨_, rfl, rfl, by decide⟩, by decide +kernel, by decide⟩
theorem lkL_185 : JV RL 185 yX9_keep cX9_keep 1 (some .int) 9 0 := ⟨kw_in (List.mem_of_getElem? (i := 1477) (by decide +kernel)) (by decide +kernel), kw_in (List.mem_of_getElem? (i := 1478) (by decide +kernel)) (by decide +kernel), kw_in (List.mem_of_getElem? (i := 1479) (by decide +kernel)) (by decide +kernel), inRX9, kcX9_keep, ⟨_, rfl, rfl, by decide⟩, by decide +kernel, by decide⟩
theorem lkL_186 : JV RL 186 yX8_back cX8_back 1 (some .int) 8 0 := ⟨kw_in (List.mem_of_getElem? (i := 973) (by decide +kernel)) (by decide +kernel), kw_in (List.mem_of_getElem? (i := 974) (by decide +kernel)) (by decide +kernel), kw_in (List.mem_of_getElem? (i := 975) (by decide +kernel)) (by decide +kernel), inRX8, kcX8_back, ⟨_, rfl, rfl, by decide⟩, by decide +kernel, by decide⟩
theorem lkL_189 : JV RL 189 yX9_back cX9_back 1 (some .int) 9 0 := ⟨kw_in (List.mem_of_getElem? (i := 1481) (by decide +kernel)) (by decide +kernel), kw_in (List.mem_of_getElem? (i := 1482) (by decide +kernel)) (by decide +kernel), kw_in (List.mem_of_getElem? (i := 1483) (by decide +kernel)) (by decide +kernel), inRX9, kcX9_back, ⟨_, rfl, rfl, by decide⟩, by decide +kernel, by decide⟩
theorem lkL_190 : JV RL 190 yX8_count cX8_count 2 (some .int) 8 1 := ⟨kw_in (List.mem_of_getElem? (i := 977) (by decide +kernel)) (by decide +kernel), kw_in (List.mem_of_getElem? (i := 978) (by decide +kernel)) (by decide +kernel), kw_in (List.mem_of_getElem? (i := 979) (by decide +kernel)) (by decide +kernel), inRX8, kcX8_count, ⟨_, rfl, rfl, by decide⟩, by decide +kernel, by decide⟩
theorem lkL_193 : JV RL 193 yX9_count cX9_count 2 (some .int) 9 1 := ⟨kw_in (List.mem_of_getElem? (i := 1485) (by decide +kernel)) (by decide +kernel), kw_in (List.mem_of_getElem? (i := 1486) (by decide +kernel)) (by decide +kernel), kw_in (List.mem_of_getElem? (i := 1487) (by decide +kernel)) (by decide +kernel), inRX9, kcX9_count, ⟨_, rfl, rfl, by decide⟩, by decide +kernel, by decide⟩
theorem lkX0_3 : Cond.methodLink RX0 3 objectInit ∈ kw := kw_in (List.mem_of_getElem? (i := 105) (by decide +kernel)) (by decide +kernel)
theorem flX0_9 : Cond.fieldLink RX0 9 RX0 (TX0 0).2.1 (TX0 0).2.2.1 ∈ kw := kw_in (List.mem_of_getElem? (i := 106) (by decide +kernel)) (by decide +kernel)
theorem gfX0_9 {g : Cx} {cc : ByteArray} {nL : Nat} {ret : Option FieldType} {nm : String} {d kc ks rk rn pc : Nat} {lv : List (Option Value)} {st : List Value} {w : Wd} {Q : Option Value → Wd → Prop} {a : Nat} (hd : decode cc pc = .ok (.getfield 9, 3)) (hs : jK w a 0 0) (K : RR g RX0 cc nL ret nm d kc ks rk rn (pc + 3) lv (.int (wI w a 0) :: st) w Q) : RR g RX0 cc nL ret nm d kc ks rk rn pc lv (.ref (gb g + a) :: st) w Q :=
  jr_get (ci := 0) (k := 0) (C := RX0) (T := TX0) (N := 3) flX0_9 huX0 rfl (by decide) (by decide) rfl hs rfl hd K
theorem pfX0_9 {g : Cx} {cc : ByteArray} {nL : Nat} {ret : Option FieldType} {nm : String} {d kc ks rk rn pc : Nat} {lv : List (Option Value)} {st : List Value} {w : Wd} {Q : Option Value → Wd → Prop} {a : Nat} {x : Int32} (hd : decode cc pc = .ok (.putfield 9, 3)) (hs : jK w a 0 0) (K : RR g RX0 cc nL ret nm d kc ks rk rn (pc + 3) lv st (sR w a (upd (wI w a) 0 x)) Q) : RR g RX0 cc nL ret nm d kc ks rk rn pc lv (.int x :: .ref (gb g + a) :: st) w Q :=
  jr_put (ci := 0) (k := 0) (C := RX0) (T := TX0) (N := 3) (ty := .int) (ty0 := tyX0) (w' := sR w a (upd (wI w a) 0 x)) flX0_9 huX0 rfl (by decide) (by decide) rfl tyX0_ok nmX0 (by decide +kernel) rfl rfl (Or.inl rfl) hs (fun _ _ => Nat.le_of_ble_eq_true rfl) rfl (by rw [cE_obj (hs.sR _ _) (by decide), wI_sR_s]; rfl) (fun i hi => cE_sR_o hi) hd K
theorem flX0_15 : Cond.fieldLink RX0 15 RX0 (TX0 1).2.1 (TX0 1).2.2.1 ∈ kw := kw_in (List.mem_of_getElem? (i := 110) (by decide +kernel)) (by decide +kernel)
theorem gfX0_15 {g : Cx} {cc : ByteArray} {nL : Nat} {ret : Option FieldType} {nm : String} {d kc ks rk rn pc : Nat} {lv : List (Option Value)} {st : List Value} {w : Wd} {Q : Option Value → Wd → Prop} {a : Nat} (hd : decode cc pc = .ok (.getfield 15, 3)) (hs : jK w a 0 0) (K : RR g RX0 cc nL ret nm d kc ks rk rn (pc + 3) lv (.int (wI w a 1) :: st) w Q) : RR g RX0 cc nL ret nm d kc ks rk rn pc lv (.ref (gb g + a) :: st) w Q :=
  jr_get (ci := 0) (k := 1) (C := RX0) (T := TX0) (N := 3) flX0_15 huX0 rfl (by decide) (by decide) rfl hs rfl hd K
theorem pfX0_15 {g : Cx} {cc : ByteArray} {nL : Nat} {ret : Option FieldType} {nm : String} {d kc ks rk rn pc : Nat} {lv : List (Option Value)} {st : List Value} {w : Wd} {Q : Option Value → Wd → Prop} {a : Nat} {x : Int32} (hd : decode cc pc = .ok (.putfield 15, 3)) (hs : jK w a 0 0) (K : RR g RX0 cc nL ret nm d kc ks rk rn (pc + 3) lv st (sR w a (upd (wI w a) 1 x)) Q) : RR g RX0 cc nL ret nm d kc ks rk rn pc lv (.int x :: .ref (gb g + a) :: st) w Q :=
  jr_put (ci := 0) (k := 1) (C := RX0) (T := TX0) (N := 3) (ty := .int) (ty0 := tyX0) (w' := sR w a (upd (wI w a) 1 x)) flX0_15 huX0 rfl (by decide) (by decide) rfl tyX0_ok nmX0 (by decide +kernel) rfl rfl (Or.inl rfl) hs (fun _ _ => Nat.le_of_ble_eq_true rfl) rfl (by rw [cE_obj (hs.sR _ _) (by decide), wI_sR_s]; rfl) (fun i hi => cE_sR_o hi) hd K
theorem flX0_18 : Cond.fieldLink RX0 18 RX0 (TX0 2).2.1 (TX0 2).2.2.1 ∈ kw := kw_in (List.mem_of_getElem? (i := 114) (by decide +kernel)) (by decide +kernel)
theorem gfX0_18 {g : Cx} {cc : ByteArray} {nL : Nat} {ret : Option FieldType} {nm : String} {d kc ks rk rn pc : Nat} {lv : List (Option Value)} {st : List Value} {w : Wd} {Q : Option Value → Wd → Prop} {a : Nat} (hd : decode cc pc = .ok (.getfield 18, 3)) (hs : jK w a 0 0) (K : RR g RX0 cc nL ret nm d kc ks rk rn (pc + 3) lv (.int (wI w a 2) :: st) w Q) : RR g RX0 cc nL ret nm d kc ks rk rn pc lv (.ref (gb g + a) :: st) w Q :=
  jr_get (ci := 0) (k := 2) (C := RX0) (T := TX0) (N := 3) flX0_18 huX0 rfl (by decide) (by decide) rfl hs rfl hd K
theorem pfX0_18 {g : Cx} {cc : ByteArray} {nL : Nat} {ret : Option FieldType} {nm : String} {d kc ks rk rn pc : Nat} {lv : List (Option Value)} {st : List Value} {w : Wd} {Q : Option Value → Wd → Prop} {a : Nat} {x : Int32} (hd : decode cc pc = .ok (.putfield 18, 3)) (hs : jK w a 0 0) (K : RR g RX0 cc nL ret nm d kc ks rk rn (pc + 3) lv st (sR w a (upd (wI w a) 2 x)) Q) : RR g RX0 cc nL ret nm d kc ks rk rn pc lv (.int x :: .ref (gb g + a) :: st) w Q :=
  jr_put (ci := 0) (k := 2) (C := RX0) (T := TX0) (N := 3) (ty := .int) (ty0 := tyX0) (w' := sR w a (upd (wI w a) 2 x)) flX0_18 huX0 rfl (by decide) (by decide) rfl tyX0_ok nmX0 (by decide +kernel) rfl rfl (Or.inl rfl) hs (fun _ _ => Nat.le_of_ble_eq_true rfl) rfl (by rw [cE_obj (hs.sR _ _) (by decide), wI_sR_s]; rfl) (fun i hi => cE_sR_o hi) hd K
theorem lkX1_3 : Cond.methodLink RX1 3 objectInit ∈ kw := kw_in (List.mem_of_getElem? (i := 189) (by decide +kernel)) (by decide +kernel)
theorem flX1_9 : Cond.fieldLink RX1 9 RX1 (TX1 0).2.1 (TX1 0).2.2.1 ∈ kw := kw_in (List.mem_of_getElem? (i := 191) (by decide +kernel)) (by decide +kernel)
theorem gfX1_9 {g : Cx} {cc : ByteArray} {nL : Nat} {ret : Option FieldType} {nm : String} {d kc ks rk rn pc : Nat} {lv : List (Option Value)} {st : List Value} {w : Wd} {Q : Option Value → Wd → Prop} {a : Nat} (b : Nat) (hd : decode cc pc = .ok (.getfield 9, 3)) (hs : jK w a 1 0) (hF : wF w a 0 = some b) (K : RR g RX1 cc nL ret nm d kc ks rk rn (pc + 3) lv (.ref (gb g + b) :: st) w Q) : RR g RX1 cc nL ret nm d kc ks rk rn pc lv (.ref (gb g + a) :: st) w Q :=
  jr_get (ci := 1) (k := 0) (C := RX1) (T := TX1) (N := 6) flX1_9 huX1 rfl (by decide) (by decide) rfl hs (by show some (jrf g (wF w a 0)) = some (.ref (gb g + b)); rw [hF]; rfl) hd K
theorem pfX1_9 {g : Cx} {cc : ByteArray} {nL : Nat} {ret : Option FieldType} {d kc ks rk rn pc : Nat} {lv : List (Option Value)} {st : List Value} {w : Wd} {Q : Option Value → Wd → Prop} {a b : Nat} (hd : decode cc pc = .ok (.putfield 9, 3)) (hs : jK w a 1 0) (K : RR g RX1 cc nL ret "<init>" d kc ks rk rn (pc + 3) lv st (sP w a (uF (wF w a) 0 (some b))) Q) : RR g RX1 cc nL ret "<init>" d kc ks rk rn pc lv (.ref (gb g + b) :: .ref (gb g + a) :: st) w Q :=
  jr_put (ci := 1) (k := 0) (C := RX1) (T := TX1) (N := 6) (ty := (.array .int)) (ty0 := tyX1) (w' := sP w a (uF (wF w a) 0 (some b))) flX1_9 huX1 rfl (by decide) (by decide) rfl tyX1_ok nmX1 (by decide +kernel) rfl rfl (Or.inr ⟨rfl, rfl, rfl⟩) hs (fun _ _ => Nat.le_of_ble_eq_true rfl) rfl (by rw [cE_obj (hs.sP _ _) (by decide), wF_sP_s, wI_sP]; rfl) (fun i hi => cE_sP_o hi) hd K
theorem flX1_15 : Cond.fieldLink RX1 15 RX1 (TX1 1).2.1 (TX1 1).2.2.1 ∈ kw := kw_in (List.mem_of_getElem? (i := 193) (by decide +kernel)) (by decide +kernel)
theorem gfX1_15 {g : Cx} {cc : ByteArray} {nL : Nat} {ret : Option FieldType} {nm : String} {d kc ks rk rn pc : Nat} {lv : List (Option Value)} {st : List Value} {w : Wd} {Q : Option Value → Wd → Prop} {a : Nat} (b : Nat) (hd : decode cc pc = .ok (.getfield 15, 3)) (hs : jK w a 1 0) (hF : wF w a 1 = some b) (K : RR g RX1 cc nL ret nm d kc ks rk rn (pc + 3) lv (.ref (gb g + b) :: st) w Q) : RR g RX1 cc nL ret nm d kc ks rk rn pc lv (.ref (gb g + a) :: st) w Q :=
  jr_get (ci := 1) (k := 1) (C := RX1) (T := TX1) (N := 6) flX1_15 huX1 rfl (by decide) (by decide) rfl hs (by show some (jrf g (wF w a 1)) = some (.ref (gb g + b)); rw [hF]; rfl) hd K
theorem pfX1_15 {g : Cx} {cc : ByteArray} {nL : Nat} {ret : Option FieldType} {d kc ks rk rn pc : Nat} {lv : List (Option Value)} {st : List Value} {w : Wd} {Q : Option Value → Wd → Prop} {a b : Nat} (hd : decode cc pc = .ok (.putfield 15, 3)) (hs : jK w a 1 0) (K : RR g RX1 cc nL ret "<init>" d kc ks rk rn (pc + 3) lv st (sP w a (uF (wF w a) 1 (some b))) Q) : RR g RX1 cc nL ret "<init>" d kc ks rk rn pc lv (.ref (gb g + b) :: .ref (gb g + a) :: st) w Q :=
  jr_put (ci := 1) (k := 1) (C := RX1) (T := TX1) (N := 6) (ty := (.array .int)) (ty0 := tyX1) (w' := sP w a (uF (wF w a) 1 (some b))) flX1_15 huX1 rfl (by decide) (by decide) rfl tyX1_ok nmX1 (by decide +kernel) rfl rfl (Or.inr ⟨rfl, rfl, rfl⟩) hs (fun _ _ => Nat.le_of_ble_eq_true rfl) rfl (by rw [cE_obj (hs.sP _ _) (by decide), wF_sP_s, wI_sP]; rfl) (fun i hi => cE_sP_o hi) hd K
theorem flX1_18 : Cond.fieldLink RX1 18 RX1 (TX1 2).2.1 (TX1 2).2.2.1 ∈ kw := kw_in (List.mem_of_getElem? (i := 194) (by decide +kernel)) (by decide +kernel)
theorem gfX1_18 {g : Cx} {cc : ByteArray} {nL : Nat} {ret : Option FieldType} {nm : String} {d kc ks rk rn pc : Nat} {lv : List (Option Value)} {st : List Value} {w : Wd} {Q : Option Value → Wd → Prop} {a : Nat} (hd : decode cc pc = .ok (.getfield 18, 3)) (hs : jK w a 1 0) (K : RR g RX1 cc nL ret nm d kc ks rk rn (pc + 3) lv (.int (wI w a 2) :: st) w Q) : RR g RX1 cc nL ret nm d kc ks rk rn pc lv (.ref (gb g + a) :: st) w Q :=
  jr_get (ci := 1) (k := 2) (C := RX1) (T := TX1) (N := 6) flX1_18 huX1 rfl (by decide) (by decide) rfl hs rfl hd K
theorem pfX1_18 {g : Cx} {cc : ByteArray} {nL : Nat} {ret : Option FieldType} {nm : String} {d kc ks rk rn pc : Nat} {lv : List (Option Value)} {st : List Value} {w : Wd} {Q : Option Value → Wd → Prop} {a : Nat} {x : Int32} (hd : decode cc pc = .ok (.putfield 18, 3)) (hs : jK w a 1 0) (K : RR g RX1 cc nL ret nm d kc ks rk rn (pc + 3) lv st (sR w a (upd (wI w a) 2 x)) Q) : RR g RX1 cc nL ret nm d kc ks rk rn pc lv (.int x :: .ref (gb g + a) :: st) w Q :=
  jr_put (ci := 1) (k := 2) (C := RX1) (T := TX1) (N := 6) (ty := .int) (ty0 := tyX1) (w' := sR w a (upd (wI w a) 2 x)) flX1_18 huX1 rfl (by decide) (by decide) rfl tyX1_ok nmX1 (by decide +kernel) rfl rfl (Or.inl rfl) hs (fun _ _ => Nat.le_of_ble_eq_true rfl) rfl (by rw [cE_obj (hs.sR _ _) (by decide), wI_sR_s]; rfl) (fun i hi => cE_sR_o hi) hd K
theorem flX1_22 : Cond.fieldLink RX1 22 RX1 (TX1 3).2.1 (TX1 3).2.2.1 ∈ kw := kw_in (List.mem_of_getElem? (i := 195) (by decide +kernel)) (by decide +kernel)
theorem gfX1_22 {g : Cx} {cc : ByteArray} {nL : Nat} {ret : Option FieldType} {nm : String} {d kc ks rk rn pc : Nat} {lv : List (Option Value)} {st : List Value} {w : Wd} {Q : Option Value → Wd → Prop} {a : Nat} (hd : decode cc pc = .ok (.getfield 22, 3)) (hs : jK w a 1 0) (K : RR g RX1 cc nL ret nm d kc ks rk rn (pc + 3) lv (.int (wI w a 3) :: st) w Q) : RR g RX1 cc nL ret nm d kc ks rk rn pc lv (.ref (gb g + a) :: st) w Q :=
  jr_get (ci := 1) (k := 3) (C := RX1) (T := TX1) (N := 6) flX1_22 huX1 rfl (by decide) (by decide) rfl hs rfl hd K
theorem pfX1_22 {g : Cx} {cc : ByteArray} {nL : Nat} {ret : Option FieldType} {nm : String} {d kc ks rk rn pc : Nat} {lv : List (Option Value)} {st : List Value} {w : Wd} {Q : Option Value → Wd → Prop} {a : Nat} {x : Int32} (hd : decode cc pc = .ok (.putfield 22, 3)) (hs : jK w a 1 0) (K : RR g RX1 cc nL ret nm d kc ks rk rn (pc + 3) lv st (sR w a (upd (wI w a) 3 x)) Q) : RR g RX1 cc nL ret nm d kc ks rk rn pc lv (.int x :: .ref (gb g + a) :: st) w Q :=
  jr_put (ci := 1) (k := 3) (C := RX1) (T := TX1) (N := 6) (ty := .int) (ty0 := tyX1) (w' := sR w a (upd (wI w a) 3 x)) flX1_22 huX1 rfl (by decide) (by decide) rfl tyX1_ok nmX1 (by decide +kernel) rfl rfl (Or.inl rfl) hs (fun _ _ => Nat.le_of_ble_eq_true rfl) rfl (by rw [cE_obj (hs.sR _ _) (by decide), wI_sR_s]; rfl) (fun i hi => cE_sR_o hi) hd K
theorem flX1_25 : Cond.fieldLink RX1 25 RX1 (TX1 4).2.1 (TX1 4).2.2.1 ∈ kw := kw_in (List.mem_of_getElem? (i := 197) (by decide +kernel)) (by decide +kernel)
theorem gfX1_25 {g : Cx} {cc : ByteArray} {nL : Nat} {ret : Option FieldType} {nm : String} {d kc ks rk rn pc : Nat} {lv : List (Option Value)} {st : List Value} {w : Wd} {Q : Option Value → Wd → Prop} {a : Nat} (hd : decode cc pc = .ok (.getfield 25, 3)) (hs : jK w a 1 0) (K : RR g RX1 cc nL ret nm d kc ks rk rn (pc + 3) lv (.int (wI w a 4) :: st) w Q) : RR g RX1 cc nL ret nm d kc ks rk rn pc lv (.ref (gb g + a) :: st) w Q :=
  jr_get (ci := 1) (k := 4) (C := RX1) (T := TX1) (N := 6) flX1_25 huX1 rfl (by decide) (by decide) rfl hs rfl hd K
theorem pfX1_25 {g : Cx} {cc : ByteArray} {nL : Nat} {ret : Option FieldType} {nm : String} {d kc ks rk rn pc : Nat} {lv : List (Option Value)} {st : List Value} {w : Wd} {Q : Option Value → Wd → Prop} {a : Nat} {x : Int32} (hd : decode cc pc = .ok (.putfield 25, 3)) (hs : jK w a 1 0) (K : RR g RX1 cc nL ret nm d kc ks rk rn (pc + 3) lv st (sR w a (upd (wI w a) 4 x)) Q) : RR g RX1 cc nL ret nm d kc ks rk rn pc lv (.int x :: .ref (gb g + a) :: st) w Q :=
  jr_put (ci := 1) (k := 4) (C := RX1) (T := TX1) (N := 6) (ty := .int) (ty0 := tyX1) (w' := sR w a (upd (wI w a) 4 x)) flX1_25 huX1 rfl (by decide) (by decide) rfl tyX1_ok nmX1 (by decide +kernel) rfl rfl (Or.inl rfl) hs (fun _ _ => Nat.le_of_ble_eq_true rfl) rfl (by rw [cE_obj (hs.sR _ _) (by decide), wI_sR_s]; rfl) (fun i hi => cE_sR_o hi) hd K
theorem ckX1_28 : Cond.constant RX1 28 (-1000000005) ∈ kw := kw_in (List.mem_of_getElem? (i := 190) (by decide +kernel)) (by decide +kernel)
theorem flX1_29 : Cond.fieldLink RX1 29 RX1 (TX1 5).2.1 (TX1 5).2.2.1 ∈ kw := kw_in (List.mem_of_getElem? (i := 199) (by decide +kernel)) (by decide +kernel)
theorem gfX1_29 {g : Cx} {cc : ByteArray} {nL : Nat} {ret : Option FieldType} {nm : String} {d kc ks rk rn pc : Nat} {lv : List (Option Value)} {st : List Value} {w : Wd} {Q : Option Value → Wd → Prop} {a : Nat} (hd : decode cc pc = .ok (.getfield 29, 3)) (hs : jK w a 1 0) (K : RR g RX1 cc nL ret nm d kc ks rk rn (pc + 3) lv (.int (wI w a 5) :: st) w Q) : RR g RX1 cc nL ret nm d kc ks rk rn pc lv (.ref (gb g + a) :: st) w Q :=
  jr_get (ci := 1) (k := 5) (C := RX1) (T := TX1) (N := 6) flX1_29 huX1 rfl (by decide) (by decide) rfl hs rfl hd K
theorem pfX1_29 {g : Cx} {cc : ByteArray} {nL : Nat} {ret : Option FieldType} {nm : String} {d kc ks rk rn pc : Nat} {lv : List (Option Value)} {st : List Value} {w : Wd} {Q : Option Value → Wd → Prop} {a : Nat} {x : Int32} (hd : decode cc pc = .ok (.putfield 29, 3)) (hs : jK w a 1 0) (K : RR g RX1 cc nL ret nm d kc ks rk rn (pc + 3) lv st (sR w a (upd (wI w a) 5 x)) Q) : RR g RX1 cc nL ret nm d kc ks rk rn pc lv (.int x :: .ref (gb g + a) :: st) w Q :=
  jr_put (ci := 1) (k := 5) (C := RX1) (T := TX1) (N := 6) (ty := .int) (ty0 := tyX1) (w' := sR w a (upd (wI w a) 5 x)) flX1_29 huX1 rfl (by decide) (by decide) rfl tyX1_ok nmX1 (by decide +kernel) rfl rfl (Or.inl rfl) hs (fun _ _ => Nat.le_of_ble_eq_true rfl) rfl (by rw [cE_obj (hs.sR _ _) (by decide), wI_sR_s]; rfl) (fun i hi => cE_sR_o hi) hd K
theorem lkX1_32 : JS RX1 32 yJ7_fill_53178 cJ7_fill_53178 4 none 2 := ⟨kw_in (List.mem_of_getElem? (i := 539) (by decide +kernel)) (by decide +kernel), kw_in (List.mem_of_getElem? (i := 540) (by decide +kernel)) (by decide +kernel), inRJ7, kcJ7_fill_53178, by decide +kernel, by decide⟩
theorem flX1_38 : Cond.fieldLink RX1 38 RX2 (TX2 1).2.1 (TX2 1).2.2.1 ∈ kw := kw_in (List.mem_of_getElem? (i := 129) (by decide +kernel)) (by decide +kernel)
theorem gfX1_38 {g : Cx} {cc : ByteArray} {nL : Nat} {ret : Option FieldType} {nm : String} {d kc ks rk rn pc : Nat} {lv : List (Option Value)} {st : List Value} {w : Wd} {Q : Option Value → Wd → Prop} {a : Nat} (hd : decode cc pc = .ok (.getfield 38, 3)) (hs : jK w a 2 0) (K : RR g RX1 cc nL ret nm d kc ks rk rn (pc + 3) lv (.int (wI w a 1) :: st) w Q) : RR g RX1 cc nL ret nm d kc ks rk rn pc lv (.ref (gb g + a) :: st) w Q :=
  jr_get (ci := 2) (k := 1) (C := RX2) (T := TX2) (N := 14) flX1_38 huX2 rfl (by decide) (by decide) rfl hs rfl hd K
theorem flX1_43 : Cond.fieldLink RX1 43 RX2 (TX2 0).2.1 (TX2 0).2.2.1 ∈ kw := kw_in (List.mem_of_getElem? (i := 126) (by decide +kernel)) (by decide +kernel)
theorem gfX1_43 {g : Cx} {cc : ByteArray} {nL : Nat} {ret : Option FieldType} {nm : String} {d kc ks rk rn pc : Nat} {lv : List (Option Value)} {st : List Value} {w : Wd} {Q : Option Value → Wd → Prop} {a : Nat} (b : Nat) (hd : decode cc pc = .ok (.getfield 43, 3)) (hs : jK w a 2 0) (hF : wF w a 0 = some b) (K : RR g RX1 cc nL ret nm d kc ks rk rn (pc + 3) lv (.ref (gb g + b) :: st) w Q) : RR g RX1 cc nL ret nm d kc ks rk rn pc lv (.ref (gb g + a) :: st) w Q :=
  jr_get (ci := 2) (k := 0) (C := RX2) (T := TX2) (N := 14) flX1_43 huX2 rfl (by decide) (by decide) rfl hs (by show some (jrf g (wF w a 0)) = some (.ref (gb g + b)); rw [hF]; rfl) hd K
theorem flX1_47 : Cond.fieldLink RX1 47 RX0 (TX0 1).2.1 (TX0 1).2.2.1 ∈ kw := kw_in (List.mem_of_getElem? (i := 111) (by decide +kernel)) (by decide +kernel)
theorem gfX1_47 {g : Cx} {cc : ByteArray} {nL : Nat} {ret : Option FieldType} {nm : String} {d kc ks rk rn pc : Nat} {lv : List (Option Value)} {st : List Value} {w : Wd} {Q : Option Value → Wd → Prop} {a : Nat} (hd : decode cc pc = .ok (.getfield 47, 3)) (hs : jK w a 0 0) (K : RR g RX1 cc nL ret nm d kc ks rk rn (pc + 3) lv (.int (wI w a 1) :: st) w Q) : RR g RX1 cc nL ret nm d kc ks rk rn pc lv (.ref (gb g + a) :: st) w Q :=
  jr_get (ci := 0) (k := 1) (C := RX0) (T := TX0) (N := 3) flX1_47 huX0 rfl (by decide) (by decide) rfl hs rfl hd K
theorem lkX1_52 : JV RX1 52 yX1_addStrokes cX1_addStrokes 10 none 1 4 := ⟨kw_in (List.mem_of_getElem? (i := 542) (by decide +kernel)) (by decide +kernel), kw_in (List.mem_of_getElem? (i := 543) (by decide +kernel)) (by decide +kernel), kw_in (List.mem_of_getElem? (i := 544) (by decide +kernel)) (by decide +kernel), inRX1, kcX1_addStrokes, ⟨_, rfl, rfl, by decide⟩, by decide +kernel, by decide⟩
theorem flX1_56 : Cond.fieldLink RX1 56 RX0 (TX0 0).2.1 (TX0 0).2.2.1 ∈ kw := kw_in (List.mem_of_getElem? (i := 107) (by decide +kernel)) (by decide +kernel)
theorem gfX1_56 {g : Cx} {cc : ByteArray} {nL : Nat} {ret : Option FieldType} {nm : String} {d kc ks rk rn pc : Nat} {lv : List (Option Value)} {st : List Value} {w : Wd} {Q : Option Value → Wd → Prop} {a : Nat} (hd : decode cc pc = .ok (.getfield 56, 3)) (hs : jK w a 0 0) (K : RR g RX1 cc nL ret nm d kc ks rk rn (pc + 3) lv (.int (wI w a 0) :: st) w Q) : RR g RX1 cc nL ret nm d kc ks rk rn pc lv (.ref (gb g + a) :: st) w Q :=
  jr_get (ci := 0) (k := 0) (C := RX0) (T := TX0) (N := 3) flX1_56 huX0 rfl (by decide) (by decide) rfl hs rfl hd K
theorem lkX1_59 : JN RX1 59 yX8_isUnder cX8_isUnder 4 (some .boolean) 2 ∧ Cond.static yX8_isUnder ∈ kw := ⟨⟨⟨"StrokesHeard", by decide +kernel⟩, inRX8, kcX8_isUnder, by decide +kernel, by decide⟩, kw_in (List.mem_of_getElem? (i := 399) (by decide +kernel)) (by decide +kernel)⟩
theorem lkX1_63 : JV RX1 63 yX2_againMinute cX2_againMinute 5 (some .int) 2 3 := ⟨kw_in (List.mem_of_getElem? (i := 547) (by decide +kernel)) (by decide +kernel), kw_in (List.mem_of_getElem? (i := 404) (by decide +kernel)) (by decide +kernel), kw_in (List.mem_of_getElem? (i := 405) (by decide +kernel)) (by decide +kernel), inRX2, kcX2_againMinute, ⟨_, rfl, rfl, by decide⟩, by decide +kernel, by decide⟩
theorem lkX1_67 : JN RX1 67 yX8_strokesWithin cX8_strokesWithin 4 (some .int) 4 ∧ Cond.static yX8_strokesWithin ∈ kw := ⟨⟨⟨"StrokesHeard", by decide +kernel⟩, inRX8, kcX8_strokesWithin, by decide +kernel, by decide⟩, kw_in (List.mem_of_getElem? (i := 432) (by decide +kernel)) (by decide +kernel)⟩
theorem lkX1_71 : JV RX1 71 yX1_addAt cX1_addAt 3 none 1 2 := ⟨kw_in (List.mem_of_getElem? (i := 549) (by decide +kernel)) (by decide +kernel), kw_in (List.mem_of_getElem? (i := 551) (by decide +kernel)) (by decide +kernel), kw_in (List.mem_of_getElem? (i := 1) (by decide +kernel)) (by decide +kernel), inRX1, kcX1_addAt, ⟨_, rfl, rfl, by decide⟩, by decide +kernel, by decide⟩
theorem lkX1_75 : JS RX1 75 yJ9_floorMod_7cf53 cJ9_floorMod_7cf53 3 (some .int) 2 := ⟨kw_in (List.mem_of_getElem? (i := 553) (by decide +kernel)) (by decide +kernel), kw_in (List.mem_of_getElem? (i := 396) (by decide +kernel)) (by decide +kernel), inRJ9, kcJ9_floorMod_7cf53, by decide +kernel, by decide⟩
theorem flX1_81 : Cond.fieldLink RX1 81 RX2 (TX2 10).2.1 (TX2 10).2.2.1 ∈ kw := kw_in (List.mem_of_getElem? (i := 148) (by decide +kernel)) (by decide +kernel)
theorem gfX1_81 {g : Cx} {cc : ByteArray} {nL : Nat} {ret : Option FieldType} {nm : String} {d kc ks rk rn pc : Nat} {lv : List (Option Value)} {st : List Value} {w : Wd} {Q : Option Value → Wd → Prop} {a : Nat} (hd : decode cc pc = .ok (.getfield 81, 3)) (hs : jK w a 2 0) (K : RR g RX1 cc nL ret nm d kc ks rk rn (pc + 3) lv (.int (wI w a 10) :: st) w Q) : RR g RX1 cc nL ret nm d kc ks rk rn pc lv (.ref (gb g + a) :: st) w Q :=
  jr_get (ci := 2) (k := 10) (C := RX2) (T := TX2) (N := 14) flX1_81 huX2 rfl (by decide) (by decide) rfl hs rfl hd K
theorem flX1_82 : Cond.fieldLink RX1 82 RX2 (TX2 9).2.1 (TX2 9).2.2.1 ∈ kw := kw_in (List.mem_of_getElem? (i := 145) (by decide +kernel)) (by decide +kernel)
theorem gfX1_82 {g : Cx} {cc : ByteArray} {nL : Nat} {ret : Option FieldType} {nm : String} {d kc ks rk rn pc : Nat} {lv : List (Option Value)} {st : List Value} {w : Wd} {Q : Option Value → Wd → Prop} {a : Nat} (b : Nat) (hd : decode cc pc = .ok (.getfield 82, 3)) (hs : jK w a 2 0) (hF : wF w a 9 = some b) (K : RR g RX1 cc nL ret nm d kc ks rk rn (pc + 3) lv (.ref (gb g + b) :: st) w Q) : RR g RX1 cc nL ret nm d kc ks rk rn pc lv (.ref (gb g + a) :: st) w Q :=
  jr_get (ci := 2) (k := 9) (C := RX2) (T := TX2) (N := 14) flX1_82 huX2 rfl (by decide) (by decide) rfl hs (by show some (jrf g (wF w a 9)) = some (.ref (gb g + b)); rw [hF]; rfl) hd K
theorem lkX1_85 : JV RX1 85 yX2_allows cX2_allows 4 (some .boolean) 2 2 := ⟨kw_in (List.mem_of_getElem? (i := 558) (by decide +kernel)) (by decide +kernel), kw_in (List.mem_of_getElem? (i := 528) (by decide +kernel)) (by decide +kernel), kw_in (List.mem_of_getElem? (i := 529) (by decide +kernel)) (by decide +kernel), inRX2, kcX2_allows, ⟨_, rfl, rfl, by decide⟩, by decide +kernel, by decide⟩
theorem lkX1_88 : JN RX1 88 yX8_held cX8_held 3 (some .int) 3 ∧ Cond.static yX8_held ∈ kw := ⟨⟨⟨"StrokesHeard", by decide +kernel⟩, inRX8, kcX8_held, by decide +kernel, by decide⟩, kw_in (List.mem_of_getElem? (i := 423) (by decide +kernel)) (by decide +kernel)⟩
theorem lkX1_92 : JS RX1 92 yJ6_bitCount_0f7a4 cJ6_bitCount_0f7a4 1 (some .int) 1 := ⟨kw_in (List.mem_of_getElem? (i := 568) (by decide +kernel)) (by decide +kernel), kw_in (List.mem_of_getElem? (i := 569) (by decide +kernel)) (by decide +kernel), inRJ6, kcJ6_bitCount_0f7a4, by decide +kernel, by decide⟩
theorem flX1_98 : Cond.fieldLink RX1 98 RX3 (TX3 1).2.1 (TX3 1).2.2.1 ∈ kw := kw_in (List.mem_of_getElem? (i := 287) (by decide +kernel)) (by decide +kernel)
theorem gfX1_98 {g : Cx} {cc : ByteArray} {nL : Nat} {ret : Option FieldType} {nm : String} {d kc ks rk rn pc : Nat} {lv : List (Option Value)} {st : List Value} {w : Wd} {Q : Option Value → Wd → Prop} {a : Nat} (hd : decode cc pc = .ok (.getfield 98, 3)) (hs : jK w a 3 0) (K : RR g RX1 cc nL ret nm d kc ks rk rn (pc + 3) lv (.int (wI w a 1) :: st) w Q) : RR g RX1 cc nL ret nm d kc ks rk rn pc lv (.ref (gb g + a) :: st) w Q :=
  jr_get (ci := 3) (k := 1) (C := RX3) (T := TX3) (N := 3) flX1_98 huX3 rfl (by decide) (by decide) rfl hs rfl hd K
theorem lkX1_103 : JV RX1 103 yX3_isNumber cX3_isNumber 2 (some .boolean) 3 1 := ⟨kw_in (List.mem_of_getElem? (i := 620) (by decide +kernel)) (by decide +kernel), kw_in (List.mem_of_getElem? (i := 621) (by decide +kernel)) (by decide +kernel), kw_in (List.mem_of_getElem? (i := 622) (by decide +kernel)) (by decide +kernel), inRX3, kcX3_isNumber, ⟨_, rfl, rfl, by decide⟩, by decide +kernel, by decide⟩
theorem flX1_107 : Cond.fieldLink RX1 107 RX3 (TX3 2).2.1 (TX3 2).2.2.1 ∈ kw := kw_in (List.mem_of_getElem? (i := 290) (by decide +kernel)) (by decide +kernel)
theorem gfX1_107 {g : Cx} {cc : ByteArray} {nL : Nat} {ret : Option FieldType} {nm : String} {d kc ks rk rn pc : Nat} {lv : List (Option Value)} {st : List Value} {w : Wd} {Q : Option Value → Wd → Prop} {a : Nat} (b : Nat) (hd : decode cc pc = .ok (.getfield 107, 3)) (hs : jK w a 3 0) (hF : wF w a 2 = some b) (K : RR g RX1 cc nL ret nm d kc ks rk rn (pc + 3) lv (.ref (gb g + b) :: st) w Q) : RR g RX1 cc nL ret nm d kc ks rk rn pc lv (.ref (gb g + a) :: st) w Q :=
  jr_get (ci := 3) (k := 2) (C := RX3) (T := TX3) (N := 3) flX1_107 huX3 rfl (by decide) (by decide) rfl hs (by show some (jrf g (wF w a 2)) = some (.ref (gb g + b)); rw [hF]; rfl) hd K
theorem lkX1_110 : JS RX1 110 yJ9_abs_0f7a4 cJ9_abs_0f7a4 1 (some .int) 1 := ⟨kw_in (List.mem_of_getElem? (i := 626) (by decide +kernel)) (by decide +kernel), kw_in (List.mem_of_getElem? (i := 627) (by decide +kernel)) (by decide +kernel), inRJ9, kcJ9_abs_0f7a4, by decide +kernel, by decide⟩
theorem lkX2_3 : Cond.methodLink RX2 3 objectInit ∈ kw := kw_in (List.mem_of_getElem? (i := 95) (by decide +kernel)) (by decide +kernel)
theorem clX2_9 : Cond.classLink RX2 9 RX0 ∈ kw := kw_in (List.mem_of_getElem? (i := 96) (by decide +kernel)) (by decide +kernel)
theorem nwX2_9 {g : Cx} {cc : ByteArray} {nL : Nat} {ret : Option FieldType} {nm : String} {d kc ks rk rn pc : Nat} {lv : List (Option Value)} {st : List Value} {w : Wd} {Q : Option Value → Wd → Prop} (hd : decode cc pc = .ok (.new 9, 3)) (hrk : 1 ≤ rk ∧ 3 ≤ rn) (K : RR g RX2 cc nL ret nm d kc ks (rk - 1) (rn - 3) (pc + 3) lv (.ref (gb g + wn w) :: st) (pN w 0 0) Q) : RR g RX2 cc nL ret nm d kc ks rk rn pc lv st w Q :=
  jr_new (ci := 0) (C := RX0) (T := TX0) (N := 3) (ty0 := tyX0) clX2_9 (instX0) inRX0 huX0 rfl (by decide) tyX0_ok (by decide +kernel) hrk hd K
theorem flX2_11 : Cond.fieldLink RX2 11 RX2 (TX2 0).2.1 (TX2 0).2.2.1 ∈ kw := kw_in (List.mem_of_getElem? (i := 125) (by decide +kernel)) (by decide +kernel)
theorem gfX2_11 {g : Cx} {cc : ByteArray} {nL : Nat} {ret : Option FieldType} {nm : String} {d kc ks rk rn pc : Nat} {lv : List (Option Value)} {st : List Value} {w : Wd} {Q : Option Value → Wd → Prop} {a : Nat} (b : Nat) (hd : decode cc pc = .ok (.getfield 11, 3)) (hs : jK w a 2 0) (hF : wF w a 0 = some b) (K : RR g RX2 cc nL ret nm d kc ks rk rn (pc + 3) lv (.ref (gb g + b) :: st) w Q) : RR g RX2 cc nL ret nm d kc ks rk rn pc lv (.ref (gb g + a) :: st) w Q :=
  jr_get (ci := 2) (k := 0) (C := RX2) (T := TX2) (N := 14) flX2_11 huX2 rfl (by decide) (by decide) rfl hs (by show some (jrf g (wF w a 0)) = some (.ref (gb g + b)); rw [hF]; rfl) hd K
theorem pfX2_11 {g : Cx} {cc : ByteArray} {nL : Nat} {ret : Option FieldType} {d kc ks rk rn pc : Nat} {lv : List (Option Value)} {st : List Value} {w : Wd} {Q : Option Value → Wd → Prop} {a b : Nat} (hd : decode cc pc = .ok (.putfield 11, 3)) (hs : jK w a 2 0) (K : RR g RX2 cc nL ret "<init>" d kc ks rk rn (pc + 3) lv st (sP w a (uF (wF w a) 0 (some b))) Q) : RR g RX2 cc nL ret "<init>" d kc ks rk rn pc lv (.ref (gb g + b) :: .ref (gb g + a) :: st) w Q :=
  jr_put (ci := 2) (k := 0) (C := RX2) (T := TX2) (N := 14) (ty := (.array (.object "StrokesHeard$Clock"))) (ty0 := tyX2) (w' := sP w a (uF (wF w a) 0 (some b))) flX2_11 huX2 rfl (by decide) (by decide) rfl tyX2_ok nmX2 (by decide +kernel) rfl rfl (Or.inr ⟨rfl, rfl, rfl⟩) hs (fun _ _ => Nat.le_of_ble_eq_true rfl) rfl (by rw [cE_obj (hs.sP _ _) (by decide), wF_sP_s, wI_sP]; rfl) (fun i hi => cE_sP_o hi) hd K
theorem flX2_17 : Cond.fieldLink RX2 17 RX2 (TX2 1).2.1 (TX2 1).2.2.1 ∈ kw := kw_in (List.mem_of_getElem? (i := 128) (by decide +kernel)) (by decide +kernel)
theorem gfX2_17 {g : Cx} {cc : ByteArray} {nL : Nat} {ret : Option FieldType} {nm : String} {d kc ks rk rn pc : Nat} {lv : List (Option Value)} {st : List Value} {w : Wd} {Q : Option Value → Wd → Prop} {a : Nat} (hd : decode cc pc = .ok (.getfield 17, 3)) (hs : jK w a 2 0) (K : RR g RX2 cc nL ret nm d kc ks rk rn (pc + 3) lv (.int (wI w a 1) :: st) w Q) : RR g RX2 cc nL ret nm d kc ks rk rn pc lv (.ref (gb g + a) :: st) w Q :=
  jr_get (ci := 2) (k := 1) (C := RX2) (T := TX2) (N := 14) flX2_17 huX2 rfl (by decide) (by decide) rfl hs rfl hd K
theorem pfX2_17 {g : Cx} {cc : ByteArray} {nL : Nat} {ret : Option FieldType} {nm : String} {d kc ks rk rn pc : Nat} {lv : List (Option Value)} {st : List Value} {w : Wd} {Q : Option Value → Wd → Prop} {a : Nat} {x : Int32} (hd : decode cc pc = .ok (.putfield 17, 3)) (hs : jK w a 2 0) (K : RR g RX2 cc nL ret nm d kc ks rk rn (pc + 3) lv st (sR w a (upd (wI w a) 1 x)) Q) : RR g RX2 cc nL ret nm d kc ks rk rn pc lv (.int x :: .ref (gb g + a) :: st) w Q :=
  jr_put (ci := 2) (k := 1) (C := RX2) (T := TX2) (N := 14) (ty := .int) (ty0 := tyX2) (w' := sR w a (upd (wI w a) 1 x)) flX2_17 huX2 rfl (by decide) (by decide) rfl tyX2_ok nmX2 (by decide +kernel) rfl rfl (Or.inl rfl) hs (fun _ _ => Nat.le_of_ble_eq_true rfl) rfl (by rw [cE_obj (hs.sR _ _) (by decide), wI_sR_s]; rfl) (fun i hi => cE_sR_o hi) hd K
theorem flX2_21 : Cond.fieldLink RX2 21 RX2 (TX2 2).2.1 (TX2 2).2.2.1 ∈ kw := kw_in (List.mem_of_getElem? (i := 131) (by decide +kernel)) (by decide +kernel)
theorem gfX2_21 {g : Cx} {cc : ByteArray} {nL : Nat} {ret : Option FieldType} {nm : String} {d kc ks rk rn pc : Nat} {lv : List (Option Value)} {st : List Value} {w : Wd} {Q : Option Value → Wd → Prop} {a : Nat} (hd : decode cc pc = .ok (.getfield 21, 3)) (hs : jK w a 2 0) (K : RR g RX2 cc nL ret nm d kc ks rk rn (pc + 3) lv (.int (wI w a 2) :: st) w Q) : RR g RX2 cc nL ret nm d kc ks rk rn pc lv (.ref (gb g + a) :: st) w Q :=
  jr_get (ci := 2) (k := 2) (C := RX2) (T := TX2) (N := 14) flX2_21 huX2 rfl (by decide) (by decide) rfl hs rfl hd K
theorem pfX2_21 {g : Cx} {cc : ByteArray} {nL : Nat} {ret : Option FieldType} {nm : String} {d kc ks rk rn pc : Nat} {lv : List (Option Value)} {st : List Value} {w : Wd} {Q : Option Value → Wd → Prop} {a : Nat} {x : Int32} (hd : decode cc pc = .ok (.putfield 21, 3)) (hs : jK w a 2 0) (K : RR g RX2 cc nL ret nm d kc ks rk rn (pc + 3) lv st (sR w a (upd (wI w a) 2 x)) Q) : RR g RX2 cc nL ret nm d kc ks rk rn pc lv (.int x :: .ref (gb g + a) :: st) w Q :=
  jr_put (ci := 2) (k := 2) (C := RX2) (T := TX2) (N := 14) (ty := .int) (ty0 := tyX2) (w' := sR w a (upd (wI w a) 2 x)) flX2_21 huX2 rfl (by decide) (by decide) rfl tyX2_ok nmX2 (by decide +kernel) rfl rfl (Or.inl rfl) hs (fun _ _ => Nat.le_of_ble_eq_true rfl) rfl (by rw [cE_obj (hs.sR _ _) (by decide), wI_sR_s]; rfl) (fun i hi => cE_sR_o hi) hd K
theorem flX2_24 : Cond.fieldLink RX2 24 RX2 (TX2 3).2.1 (TX2 3).2.2.1 ∈ kw := kw_in (List.mem_of_getElem? (i := 133) (by decide +kernel)) (by decide +kernel)
theorem gfX2_24 {g : Cx} {cc : ByteArray} {nL : Nat} {ret : Option FieldType} {nm : String} {d kc ks rk rn pc : Nat} {lv : List (Option Value)} {st : List Value} {w : Wd} {Q : Option Value → Wd → Prop} {a : Nat} (hd : decode cc pc = .ok (.getfield 24, 3)) (hs : jK w a 2 0) (K : RR g RX2 cc nL ret nm d kc ks rk rn (pc + 3) lv (.int (wI w a 3) :: st) w Q) : RR g RX2 cc nL ret nm d kc ks rk rn pc lv (.ref (gb g + a) :: st) w Q :=
  jr_get (ci := 2) (k := 3) (C := RX2) (T := TX2) (N := 14) flX2_24 huX2 rfl (by decide) (by decide) rfl hs rfl hd K
theorem pfX2_24 {g : Cx} {cc : ByteArray} {nL : Nat} {ret : Option FieldType} {nm : String} {d kc ks rk rn pc : Nat} {lv : List (Option Value)} {st : List Value} {w : Wd} {Q : Option Value → Wd → Prop} {a : Nat} {x : Int32} (hd : decode cc pc = .ok (.putfield 24, 3)) (hs : jK w a 2 0) (K : RR g RX2 cc nL ret nm d kc ks rk rn (pc + 3) lv st (sR w a (upd (wI w a) 3 x)) Q) : RR g RX2 cc nL ret nm d kc ks rk rn pc lv (.int x :: .ref (gb g + a) :: st) w Q :=
  jr_put (ci := 2) (k := 3) (C := RX2) (T := TX2) (N := 14) (ty := .int) (ty0 := tyX2) (w' := sR w a (upd (wI w a) 3 x)) flX2_24 huX2 rfl (by decide) (by decide) rfl tyX2_ok nmX2 (by decide +kernel) rfl rfl (Or.inl rfl) hs (fun _ _ => Nat.le_of_ble_eq_true rfl) rfl (by rw [cE_obj (hs.sR _ _) (by decide), wI_sR_s]; rfl) (fun i hi => cE_sR_o hi) hd K
theorem flX2_27 : Cond.fieldLink RX2 27 RX2 (TX2 4).2.1 (TX2 4).2.2.1 ∈ kw := kw_in (List.mem_of_getElem? (i := 135) (by decide +kernel)) (by decide +kernel)
theorem gfX2_27 {g : Cx} {cc : ByteArray} {nL : Nat} {ret : Option FieldType} {nm : String} {d kc ks rk rn pc : Nat} {lv : List (Option Value)} {st : List Value} {w : Wd} {Q : Option Value → Wd → Prop} {a : Nat} (hd : decode cc pc = .ok (.getfield 27, 3)) (hs : jK w a 2 0) (K : RR g RX2 cc nL ret nm d kc ks rk rn (pc + 3) lv (.int (wI w a 4) :: st) w Q) : RR g RX2 cc nL ret nm d kc ks rk rn pc lv (.ref (gb g + a) :: st) w Q :=
  jr_get (ci := 2) (k := 4) (C := RX2) (T := TX2) (N := 14) flX2_27 huX2 rfl (by decide) (by decide) rfl hs rfl hd K
theorem pfX2_27 {g : Cx} {cc : ByteArray} {nL : Nat} {ret : Option FieldType} {nm : String} {d kc ks rk rn pc : Nat} {lv : List (Option Value)} {st : List Value} {w : Wd} {Q : Option Value → Wd → Prop} {a : Nat} {x : Int32} (hd : decode cc pc = .ok (.putfield 27, 3)) (hs : jK w a 2 0) (K : RR g RX2 cc nL ret nm d kc ks rk rn (pc + 3) lv st (sR w a (upd (wI w a) 4 x)) Q) : RR g RX2 cc nL ret nm d kc ks rk rn pc lv (.int x :: .ref (gb g + a) :: st) w Q :=
  jr_put (ci := 2) (k := 4) (C := RX2) (T := TX2) (N := 14) (ty := .int) (ty0 := tyX2) (w' := sR w a (upd (wI w a) 4 x)) flX2_27 huX2 rfl (by decide) (by decide) rfl tyX2_ok nmX2 (by decide +kernel) rfl rfl (Or.inl rfl) hs (fun _ _ => Nat.le_of_ble_eq_true rfl) rfl (by rw [cE_obj (hs.sR _ _) (by decide), wI_sR_s]; rfl) (fun i hi => cE_sR_o hi) hd K
theorem flX2_30 : Cond.fieldLink RX2 30 RX2 (TX2 5).2.1 (TX2 5).2.2.1 ∈ kw := kw_in (List.mem_of_getElem? (i := 137) (by decide +kernel)) (by decide +kernel)
theorem gfX2_30 {g : Cx} {cc : ByteArray} {nL : Nat} {ret : Option FieldType} {nm : String} {d kc ks rk rn pc : Nat} {lv : List (Option Value)} {st : List Value} {w : Wd} {Q : Option Value → Wd → Prop} {a : Nat} (hd : decode cc pc = .ok (.getfield 30, 3)) (hs : jK w a 2 0) (K : RR g RX2 cc nL ret nm d kc ks rk rn (pc + 3) lv (.int (wI w a 5) :: st) w Q) : RR g RX2 cc nL ret nm d kc ks rk rn pc lv (.ref (gb g + a) :: st) w Q :=
  jr_get (ci := 2) (k := 5) (C := RX2) (T := TX2) (N := 14) flX2_30 huX2 rfl (by decide) (by decide) rfl hs rfl hd K
theorem pfX2_30 {g : Cx} {cc : ByteArray} {nL : Nat} {ret : Option FieldType} {nm : String} {d kc ks rk rn pc : Nat} {lv : List (Option Value)} {st : List Value} {w : Wd} {Q : Option Value → Wd → Prop} {a : Nat} {x : Int32} (hd : decode cc pc = .ok (.putfield 30, 3)) (hs : jK w a 2 0) (K : RR g RX2 cc nL ret nm d kc ks rk rn (pc + 3) lv st (sR w a (upd (wI w a) 5 x)) Q) : RR g RX2 cc nL ret nm d kc ks rk rn pc lv (.int x :: .ref (gb g + a) :: st) w Q :=
  jr_put (ci := 2) (k := 5) (C := RX2) (T := TX2) (N := 14) (ty := .int) (ty0 := tyX2) (w' := sR w a (upd (wI w a) 5 x)) flX2_30 huX2 rfl (by decide) (by decide) rfl tyX2_ok nmX2 (by decide +kernel) rfl rfl (Or.inl rfl) hs (fun _ _ => Nat.le_of_ble_eq_true rfl) rfl (by rw [cE_obj (hs.sR _ _) (by decide), wI_sR_s]; rfl) (fun i hi => cE_sR_o hi) hd K
theorem flX2_33 : Cond.fieldLink RX2 33 RX2 (TX2 6).2.1 (TX2 6).2.2.1 ∈ kw := kw_in (List.mem_of_getElem? (i := 139) (by decide +kernel)) (by decide +kernel)
theorem gfX2_33 {g : Cx} {cc : ByteArray} {nL : Nat} {ret : Option FieldType} {nm : String} {d kc ks rk rn pc : Nat} {lv : List (Option Value)} {st : List Value} {w : Wd} {Q : Option Value → Wd → Prop} {a : Nat} (hd : decode cc pc = .ok (.getfield 33, 3)) (hs : jK w a 2 0) (K : RR g RX2 cc nL ret nm d kc ks rk rn (pc + 3) lv (.int (wI w a 6) :: st) w Q) : RR g RX2 cc nL ret nm d kc ks rk rn pc lv (.ref (gb g + a) :: st) w Q :=
  jr_get (ci := 2) (k := 6) (C := RX2) (T := TX2) (N := 14) flX2_33 huX2 rfl (by decide) (by decide) rfl hs rfl hd K
theorem pfX2_33 {g : Cx} {cc : ByteArray} {nL : Nat} {ret : Option FieldType} {nm : String} {d kc ks rk rn pc : Nat} {lv : List (Option Value)} {st : List Value} {w : Wd} {Q : Option Value → Wd → Prop} {a : Nat} {x : Int32} (hd : decode cc pc = .ok (.putfield 33, 3)) (hs : jK w a 2 0) (K : RR g RX2 cc nL ret nm d kc ks rk rn (pc + 3) lv st (sR w a (upd (wI w a) 6 x)) Q) : RR g RX2 cc nL ret nm d kc ks rk rn pc lv (.int x :: .ref (gb g + a) :: st) w Q :=
  jr_put (ci := 2) (k := 6) (C := RX2) (T := TX2) (N := 14) (ty := .int) (ty0 := tyX2) (w' := sR w a (upd (wI w a) 6 x)) flX2_33 huX2 rfl (by decide) (by decide) rfl tyX2_ok nmX2 (by decide +kernel) rfl rfl (Or.inl rfl) hs (fun _ _ => Nat.le_of_ble_eq_true rfl) rfl (by rw [cE_obj (hs.sR _ _) (by decide), wI_sR_s]; rfl) (fun i hi => cE_sR_o hi) hd K
theorem flX2_36 : Cond.fieldLink RX2 36 RX2 (TX2 7).2.1 (TX2 7).2.2.1 ∈ kw := kw_in (List.mem_of_getElem? (i := 140) (by decide +kernel)) (by decide +kernel)
theorem gfX2_36 {g : Cx} {cc : ByteArray} {nL : Nat} {ret : Option FieldType} {nm : String} {d kc ks rk rn pc : Nat} {lv : List (Option Value)} {st : List Value} {w : Wd} {Q : Option Value → Wd → Prop} {a : Nat} (hd : decode cc pc = .ok (.getfield 36, 3)) (hs : jK w a 2 0) (K : RR g RX2 cc nL ret nm d kc ks rk rn (pc + 3) lv (.int (wI w a 7) :: st) w Q) : RR g RX2 cc nL ret nm d kc ks rk rn pc lv (.ref (gb g + a) :: st) w Q :=
  jr_get (ci := 2) (k := 7) (C := RX2) (T := TX2) (N := 14) flX2_36 huX2 rfl (by decide) (by decide) rfl hs rfl hd K
theorem pfX2_36 {g : Cx} {cc : ByteArray} {nL : Nat} {ret : Option FieldType} {nm : String} {d kc ks rk rn pc : Nat} {lv : List (Option Value)} {st : List Value} {w : Wd} {Q : Option Value → Wd → Prop} {a : Nat} {x : Int32} (hd : decode cc pc = .ok (.putfield 36, 3)) (hs : jK w a 2 0) (K : RR g RX2 cc nL ret nm d kc ks rk rn (pc + 3) lv st (sR w a (upd (wI w a) 7 x)) Q) : RR g RX2 cc nL ret nm d kc ks rk rn pc lv (.int x :: .ref (gb g + a) :: st) w Q :=
  jr_put (ci := 2) (k := 7) (C := RX2) (T := TX2) (N := 14) (ty := .int) (ty0 := tyX2) (w' := sR w a (upd (wI w a) 7 x)) flX2_36 huX2 rfl (by decide) (by decide) rfl tyX2_ok nmX2 (by decide +kernel) rfl rfl (Or.inl rfl) hs (fun _ _ => Nat.le_of_ble_eq_true rfl) rfl (by rw [cE_obj (hs.sR _ _) (by decide), wI_sR_s]; rfl) (fun i hi => cE_sR_o hi) hd K
theorem flX2_39 : Cond.fieldLink RX2 39 RX2 (TX2 8).2.1 (TX2 8).2.2.1 ∈ kw := kw_in (List.mem_of_getElem? (i := 142) (by decide +kernel)) (by decide +kernel)
theorem gfX2_39 {g : Cx} {cc : ByteArray} {nL : Nat} {ret : Option FieldType} {nm : String} {d kc ks rk rn pc : Nat} {lv : List (Option Value)} {st : List Value} {w : Wd} {Q : Option Value → Wd → Prop} {a : Nat} (hd : decode cc pc = .ok (.getfield 39, 3)) (hs : jK w a 2 0) (K : RR g RX2 cc nL ret nm d kc ks rk rn (pc + 3) lv (.int (wI w a 8) :: st) w Q) : RR g RX2 cc nL ret nm d kc ks rk rn pc lv (.ref (gb g + a) :: st) w Q :=
  jr_get (ci := 2) (k := 8) (C := RX2) (T := TX2) (N := 14) flX2_39 huX2 rfl (by decide) (by decide) rfl hs rfl hd K
theorem pfX2_39 {g : Cx} {cc : ByteArray} {nL : Nat} {ret : Option FieldType} {nm : String} {d kc ks rk rn pc : Nat} {lv : List (Option Value)} {st : List Value} {w : Wd} {Q : Option Value → Wd → Prop} {a : Nat} {x : Int32} (hd : decode cc pc = .ok (.putfield 39, 3)) (hs : jK w a 2 0) (K : RR g RX2 cc nL ret nm d kc ks rk rn (pc + 3) lv st (sR w a (upd (wI w a) 8 x)) Q) : RR g RX2 cc nL ret nm d kc ks rk rn pc lv (.int x :: .ref (gb g + a) :: st) w Q :=
  jr_put (ci := 2) (k := 8) (C := RX2) (T := TX2) (N := 14) (ty := .int) (ty0 := tyX2) (w' := sR w a (upd (wI w a) 8 x)) flX2_39 huX2 rfl (by decide) (by decide) rfl tyX2_ok nmX2 (by decide +kernel) rfl rfl (Or.inl rfl) hs (fun _ _ => Nat.le_of_ble_eq_true rfl) rfl (by rw [cE_obj (hs.sR _ _) (by decide), wI_sR_s]; rfl) (fun i hi => cE_sR_o hi) hd K
theorem flX2_42 : Cond.fieldLink RX2 42 RX2 (TX2 9).2.1 (TX2 9).2.2.1 ∈ kw := kw_in (List.mem_of_getElem? (i := 144) (by decide +kernel)) (by decide +kernel)
theorem gfX2_42 {g : Cx} {cc : ByteArray} {nL : Nat} {ret : Option FieldType} {nm : String} {d kc ks rk rn pc : Nat} {lv : List (Option Value)} {st : List Value} {w : Wd} {Q : Option Value → Wd → Prop} {a : Nat} (b : Nat) (hd : decode cc pc = .ok (.getfield 42, 3)) (hs : jK w a 2 0) (hF : wF w a 9 = some b) (K : RR g RX2 cc nL ret nm d kc ks rk rn (pc + 3) lv (.ref (gb g + b) :: st) w Q) : RR g RX2 cc nL ret nm d kc ks rk rn pc lv (.ref (gb g + a) :: st) w Q :=
  jr_get (ci := 2) (k := 9) (C := RX2) (T := TX2) (N := 14) flX2_42 huX2 rfl (by decide) (by decide) rfl hs (by show some (jrf g (wF w a 9)) = some (.ref (gb g + b)); rw [hF]; rfl) hd K
theorem pfX2_42 {g : Cx} {cc : ByteArray} {nL : Nat} {ret : Option FieldType} {d kc ks rk rn pc : Nat} {lv : List (Option Value)} {st : List Value} {w : Wd} {Q : Option Value → Wd → Prop} {a b : Nat} (hd : decode cc pc = .ok (.putfield 42, 3)) (hs : jK w a 2 0) (K : RR g RX2 cc nL ret "<init>" d kc ks rk rn (pc + 3) lv st (sP w a (uF (wF w a) 9 (some b))) Q) : RR g RX2 cc nL ret "<init>" d kc ks rk rn pc lv (.ref (gb g + b) :: .ref (gb g + a) :: st) w Q :=
  jr_put (ci := 2) (k := 9) (C := RX2) (T := TX2) (N := 14) (ty := (.array .int)) (ty0 := tyX2) (w' := sP w a (uF (wF w a) 9 (some b))) flX2_42 huX2 rfl (by decide) (by decide) rfl tyX2_ok nmX2 (by decide +kernel) rfl rfl (Or.inr ⟨rfl, rfl, rfl⟩) hs (fun _ _ => Nat.le_of_ble_eq_true rfl) rfl (by rw [cE_obj (hs.sP _ _) (by decide), wF_sP_s, wI_sP]; rfl) (fun i hi => cE_sP_o hi) hd K
theorem flX2_46 : Cond.fieldLink RX2 46 RX2 (TX2 10).2.1 (TX2 10).2.2.1 ∈ kw := kw_in (List.mem_of_getElem? (i := 147) (by decide +kernel)) (by decide +kernel)
theorem gfX2_46 {g : Cx} {cc : ByteArray} {nL : Nat} {ret : Option FieldType} {nm : String} {d kc ks rk rn pc : Nat} {lv : List (Option Value)} {st : List Value} {w : Wd} {Q : Option Value → Wd → Prop} {a : Nat} (hd : decode cc pc = .ok (.getfield 46, 3)) (hs : jK w a 2 0) (K : RR g RX2 cc nL ret nm d kc ks rk rn (pc + 3) lv (.int (wI w a 10) :: st) w Q) : RR g RX2 cc nL ret nm d kc ks rk rn pc lv (.ref (gb g + a) :: st) w Q :=
  jr_get (ci := 2) (k := 10) (C := RX2) (T := TX2) (N := 14) flX2_46 huX2 rfl (by decide) (by decide) rfl hs rfl hd K
theorem pfX2_46 {g : Cx} {cc : ByteArray} {nL : Nat} {ret : Option FieldType} {nm : String} {d kc ks rk rn pc : Nat} {lv : List (Option Value)} {st : List Value} {w : Wd} {Q : Option Value → Wd → Prop} {a : Nat} {x : Int32} (hd : decode cc pc = .ok (.putfield 46, 3)) (hs : jK w a 2 0) (K : RR g RX2 cc nL ret nm d kc ks rk rn (pc + 3) lv st (sR w a (upd (wI w a) 10 x)) Q) : RR g RX2 cc nL ret nm d kc ks rk rn pc lv (.int x :: .ref (gb g + a) :: st) w Q :=
  jr_put (ci := 2) (k := 10) (C := RX2) (T := TX2) (N := 14) (ty := .int) (ty0 := tyX2) (w' := sR w a (upd (wI w a) 10 x)) flX2_46 huX2 rfl (by decide) (by decide) rfl tyX2_ok nmX2 (by decide +kernel) rfl rfl (Or.inl rfl) hs (fun _ _ => Nat.le_of_ble_eq_true rfl) rfl (by rw [cE_obj (hs.sR _ _) (by decide), wI_sR_s]; rfl) (fun i hi => cE_sR_o hi) hd K
theorem clX2_49 : Cond.classLink RX2 49 RX5 ∈ kw := kw_in (List.mem_of_getElem? (i := 98) (by decide +kernel)) (by decide +kernel)
theorem naX2_49 {g : Cx} {cc : ByteArray} {nL : Nat} {ret : Option FieldType} {nm : String} {d kc ks rk rn pc : Nat} {lv : List (Option Value)} {st : List Value} {w : Wd} {Q : Option Value → Wd → Prop} {x : Int32} (n : Nat) (hx : x = nI n) (hn : n < 100000) (hd : decode cc pc = .ok (.anewarray 49, 3)) (hrk : 1 ≤ rk ∧ n ≤ rn) (K : RR g RX2 cc nL ret nm d kc ks (rk - 1) (rn - n) (pc + 3) lv (.ref (gb g + wn w) :: st) (pN w 15 n) Q) : RR g RX2 cc nL ret nm d kc ks rk rn pc lv (.int x :: st) w Q :=
  jr_newA_g (kd := 15) (t0 := 5) n hx hn clX2_49 (by decide +kernel) (by decide) rfl hrk hd K
theorem flX2_51 : Cond.fieldLink RX2 51 RX2 (TX2 11).2.1 (TX2 11).2.2.1 ∈ kw := kw_in (List.mem_of_getElem? (i := 150) (by decide +kernel)) (by decide +kernel)
theorem gfX2_51 {g : Cx} {cc : ByteArray} {nL : Nat} {ret : Option FieldType} {nm : String} {d kc ks rk rn pc : Nat} {lv : List (Option Value)} {st : List Value} {w : Wd} {Q : Option Value → Wd → Prop} {a : Nat} (b : Nat) (hd : decode cc pc = .ok (.getfield 51, 3)) (hs : jK w a 2 0) (hF : wF w a 11 = some b) (K : RR g RX2 cc nL ret nm d kc ks rk rn (pc + 3) lv (.ref (gb g + b) :: st) w Q) : RR g RX2 cc nL ret nm d kc ks rk rn pc lv (.ref (gb g + a) :: st) w Q :=
  jr_get (ci := 2) (k := 11) (C := RX2) (T := TX2) (N := 14) flX2_51 huX2 rfl (by decide) (by decide) rfl hs (by show some (jrf g (wF w a 11)) = some (.ref (gb g + b)); rw [hF]; rfl) hd K
theorem pfX2_51 {g : Cx} {cc : ByteArray} {nL : Nat} {ret : Option FieldType} {d kc ks rk rn pc : Nat} {lv : List (Option Value)} {st : List Value} {w : Wd} {Q : Option Value → Wd → Prop} {a b : Nat} (hd : decode cc pc = .ok (.putfield 51, 3)) (hs : jK w a 2 0) (K : RR g RX2 cc nL ret "<init>" d kc ks rk rn (pc + 3) lv st (sP w a (uF (wF w a) 11 (some b))) Q) : RR g RX2 cc nL ret "<init>" d kc ks rk rn pc lv (.ref (gb g + b) :: .ref (gb g + a) :: st) w Q :=
  jr_put (ci := 2) (k := 11) (C := RX2) (T := TX2) (N := 14) (ty := (.array (.object "StrokesHeard$Text"))) (ty0 := tyX2) (w' := sP w a (uF (wF w a) 11 (some b))) flX2_51 huX2 rfl (by decide) (by decide) rfl tyX2_ok nmX2 (by decide +kernel) rfl rfl (Or.inr ⟨rfl, rfl, rfl⟩) hs (fun _ _ => Nat.le_of_ble_eq_true rfl) rfl (by rw [cE_obj (hs.sP _ _) (by decide), wF_sP_s, wI_sP]; rfl) (fun i hi => cE_sP_o hi) hd K
theorem flX2_55 : Cond.fieldLink RX2 55 RX2 (TX2 12).2.1 (TX2 12).2.2.1 ∈ kw := kw_in (List.mem_of_getElem? (i := 151) (by decide +kernel)) (by decide +kernel)
theorem gfX2_55 {g : Cx} {cc : ByteArray} {nL : Nat} {ret : Option FieldType} {nm : String} {d kc ks rk rn pc : Nat} {lv : List (Option Value)} {st : List Value} {w : Wd} {Q : Option Value → Wd → Prop} {a : Nat} (hd : decode cc pc = .ok (.getfield 55, 3)) (hs : jK w a 2 0) (K : RR g RX2 cc nL ret nm d kc ks rk rn (pc + 3) lv (.int (wI w a 12) :: st) w Q) : RR g RX2 cc nL ret nm d kc ks rk rn pc lv (.ref (gb g + a) :: st) w Q :=
  jr_get (ci := 2) (k := 12) (C := RX2) (T := TX2) (N := 14) flX2_55 huX2 rfl (by decide) (by decide) rfl hs rfl hd K
theorem pfX2_55 {g : Cx} {cc : ByteArray} {nL : Nat} {ret : Option FieldType} {nm : String} {d kc ks rk rn pc : Nat} {lv : List (Option Value)} {st : List Value} {w : Wd} {Q : Option Value → Wd → Prop} {a : Nat} {x : Int32} (hd : decode cc pc = .ok (.putfield 55, 3)) (hs : jK w a 2 0) (K : RR g RX2 cc nL ret nm d kc ks rk rn (pc + 3) lv st (sR w a (upd (wI w a) 12 x)) Q) : RR g RX2 cc nL ret nm d kc ks rk rn pc lv (.int x :: .ref (gb g + a) :: st) w Q :=
  jr_put (ci := 2) (k := 12) (C := RX2) (T := TX2) (N := 14) (ty := .int) (ty0 := tyX2) (w' := sR w a (upd (wI w a) 12 x)) flX2_55 huX2 rfl (by decide) (by decide) rfl tyX2_ok nmX2 (by decide +kernel) rfl rfl (Or.inl rfl) hs (fun _ _ => Nat.le_of_ble_eq_true rfl) rfl (by rw [cE_obj (hs.sR _ _) (by decide), wI_sR_s]; rfl) (fun i hi => cE_sR_o hi) hd K
theorem ckX2_58 : Cond.constant RX2 58 (-1000000005) ∈ kw := kw_in (List.mem_of_getElem? (i := 100) (by decide +kernel)) (by decide +kernel)
theorem flX2_59 : Cond.fieldLink RX2 59 RX2 (TX2 13).2.1 (TX2 13).2.2.1 ∈ kw := kw_in (List.mem_of_getElem? (i := 153) (by decide +kernel)) (by decide +kernel)
theorem gfX2_59 {g : Cx} {cc : ByteArray} {nL : Nat} {ret : Option FieldType} {nm : String} {d kc ks rk rn pc : Nat} {lv : List (Option Value)} {st : List Value} {w : Wd} {Q : Option Value → Wd → Prop} {a : Nat} (b : Nat) (hd : decode cc pc = .ok (.getfield 59, 3)) (hs : jK w a 2 0) (hF : wF w a 13 = some b) (K : RR g RX2 cc nL ret nm d kc ks rk rn (pc + 3) lv (.ref (gb g + b) :: st) w Q) : RR g RX2 cc nL ret nm d kc ks rk rn pc lv (.ref (gb g + a) :: st) w Q :=
  jr_get (ci := 2) (k := 13) (C := RX2) (T := TX2) (N := 14) flX2_59 huX2 rfl (by decide) (by decide) rfl hs (by show some (jrf g (wF w a 13)) = some (.ref (gb g + b)); rw [hF]; rfl) hd K
theorem pfX2_59 {g : Cx} {cc : ByteArray} {nL : Nat} {ret : Option FieldType} {d kc ks rk rn pc : Nat} {lv : List (Option Value)} {st : List Value} {w : Wd} {Q : Option Value → Wd → Prop} {a b : Nat} (hd : decode cc pc = .ok (.putfield 59, 3)) (hs : jK w a 2 0) (K : RR g RX2 cc nL ret "<init>" d kc ks rk rn (pc + 3) lv st (sP w a (uF (wF w a) 13 (some b))) Q) : RR g RX2 cc nL ret "<init>" d kc ks rk rn pc lv (.ref (gb g + b) :: .ref (gb g + a) :: st) w Q :=
  jr_put (ci := 2) (k := 13) (C := RX2) (T := TX2) (N := 14) (ty := (.array .int)) (ty0 := tyX2) (w' := sP w a (uF (wF w a) 13 (some b))) flX2_59 huX2 rfl (by decide) (by decide) rfl tyX2_ok nmX2 (by decide +kernel) rfl rfl (Or.inr ⟨rfl, rfl, rfl⟩) hs (fun _ _ => Nat.le_of_ble_eq_true rfl) rfl (by rw [cE_obj (hs.sP _ _) (by decide), wF_sP_s, wI_sP]; rfl) (fun i hi => cE_sP_o hi) hd K
theorem lkX2_62 : JN RX2 62 yX0_init cX0_init 1 none 0 ∧ Cond.instanceMethod yX0_init ∈ kw ∧ yX0_init.name = "<init>" := ⟨⟨⟨"StrokesHeard", by decide +kernel⟩, inRX0, kcX0_init, by decide +kernel, by decide⟩, kw_in (List.mem_of_getElem? (i := 103) (by decide +kernel)) (by decide +kernel), rfl⟩
theorem lkX2_63 : JV RX2 63 yX0_take cX0_take 2 none 0 1 := ⟨kw_in (List.mem_of_getElem? (i := 637) (by decide +kernel)) (by decide +kernel), kw_in (List.mem_of_getElem? (i := 638) (by decide +kernel)) (by decide +kernel), kw_in (List.mem_of_getElem? (i := 639) (by decide +kernel)) (by decide +kernel), inRX0, kcX0_take, ⟨_, rfl, rfl, by decide⟩, by decide +kernel, by decide⟩
theorem lkX2_67 : Cond.methodLink RX2 67 arraycopyName ∈ kw := kw_in (List.mem_of_getElem? (i := 504) (by decide +kernel)) (by decide +kernel)
theorem lkX2_73 : JN RX2 73 yX8_within cX8_within 2 (some .boolean) 2 ∧ Cond.static yX8_within ∈ kw := ⟨⟨⟨"StrokesHeard", by decide +kernel⟩, inRX8, kcX8_within, by decide +kernel, by decide⟩, kw_in (List.mem_of_getElem? (i := 370) (by decide +kernel)) (by decide +kernel)⟩
theorem flX2_77 : Cond.fieldLink RX2 77 RX0 (TX0 0).2.1 (TX0 0).2.2.1 ∈ kw := kw_in (List.mem_of_getElem? (i := 109) (by decide +kernel)) (by decide +kernel)
theorem gfX2_77 {g : Cx} {cc : ByteArray} {nL : Nat} {ret : Option FieldType} {nm : String} {d kc ks rk rn pc : Nat} {lv : List (Option Value)} {st : List Value} {w : Wd} {Q : Option Value → Wd → Prop} {a : Nat} (hd : decode cc pc = .ok (.getfield 77, 3)) (hs : jK w a 0 0) (K : RR g RX2 cc nL ret nm d kc ks rk rn (pc + 3) lv (.int (wI w a 0) :: st) w Q) : RR g RX2 cc nL ret nm d kc ks rk rn pc lv (.ref (gb g + a) :: st) w Q :=
  jr_get (ci := 0) (k := 0) (C := RX0) (T := TX0) (N := 3) flX2_77 huX0 rfl (by decide) (by decide) rfl hs rfl hd K
theorem pfX2_77 {g : Cx} {cc : ByteArray} {nL : Nat} {ret : Option FieldType} {nm : String} {d kc ks rk rn pc : Nat} {lv : List (Option Value)} {st : List Value} {w : Wd} {Q : Option Value → Wd → Prop} {a : Nat} {x : Int32} (hd : decode cc pc = .ok (.putfield 77, 3)) (hs : jK w a 0 0) (K : RR g RX2 cc nL ret nm d kc ks rk rn (pc + 3) lv st (sR w a (upd (wI w a) 0 x)) Q) : RR g RX2 cc nL ret nm d kc ks rk rn pc lv (.int x :: .ref (gb g + a) :: st) w Q :=
  jr_put (ci := 0) (k := 0) (C := RX0) (T := TX0) (N := 3) (ty := .int) (ty0 := tyX0) (w' := sR w a (upd (wI w a) 0 x)) flX2_77 huX0 rfl (by decide) (by decide) rfl tyX0_ok nmX0 (by decide +kernel) rfl rfl (Or.inl rfl) hs (fun _ _ => Nat.le_of_ble_eq_true rfl) rfl (by rw [cE_obj (hs.sR _ _) (by decide), wI_sR_s]; rfl) (fun i hi => cE_sR_o hi) hd K
theorem flX2_80 : Cond.fieldLink RX2 80 RX0 (TX0 1).2.1 (TX0 1).2.2.1 ∈ kw := kw_in (List.mem_of_getElem? (i := 113) (by decide +kernel)) (by decide +kernel)
theorem gfX2_80 {g : Cx} {cc : ByteArray} {nL : Nat} {ret : Option FieldType} {nm : String} {d kc ks rk rn pc : Nat} {lv : List (Option Value)} {st : List Value} {w : Wd} {Q : Option Value → Wd → Prop} {a : Nat} (hd : decode cc pc = .ok (.getfield 80, 3)) (hs : jK w a 0 0) (K : RR g RX2 cc nL ret nm d kc ks rk rn (pc + 3) lv (.int (wI w a 1) :: st) w Q) : RR g RX2 cc nL ret nm d kc ks rk rn pc lv (.ref (gb g + a) :: st) w Q :=
  jr_get (ci := 0) (k := 1) (C := RX0) (T := TX0) (N := 3) flX2_80 huX0 rfl (by decide) (by decide) rfl hs rfl hd K
theorem pfX2_80 {g : Cx} {cc : ByteArray} {nL : Nat} {ret : Option FieldType} {nm : String} {d kc ks rk rn pc : Nat} {lv : List (Option Value)} {st : List Value} {w : Wd} {Q : Option Value → Wd → Prop} {a : Nat} {x : Int32} (hd : decode cc pc = .ok (.putfield 80, 3)) (hs : jK w a 0 0) (K : RR g RX2 cc nL ret nm d kc ks rk rn (pc + 3) lv st (sR w a (upd (wI w a) 1 x)) Q) : RR g RX2 cc nL ret nm d kc ks rk rn pc lv (.int x :: .ref (gb g + a) :: st) w Q :=
  jr_put (ci := 0) (k := 1) (C := RX0) (T := TX0) (N := 3) (ty := .int) (ty0 := tyX0) (w' := sR w a (upd (wI w a) 1 x)) flX2_80 huX0 rfl (by decide) (by decide) rfl tyX0_ok nmX0 (by decide +kernel) rfl rfl (Or.inl rfl) hs (fun _ _ => Nat.le_of_ble_eq_true rfl) rfl (by rw [cE_obj (hs.sR _ _) (by decide), wI_sR_s]; rfl) (fun i hi => cE_sR_o hi) hd K
theorem flX2_83 : Cond.fieldLink RX2 83 RX0 (TX0 2).2.1 (TX0 2).2.2.1 ∈ kw := kw_in (List.mem_of_getElem? (i := 116) (by decide +kernel)) (by decide +kernel)
theorem gfX2_83 {g : Cx} {cc : ByteArray} {nL : Nat} {ret : Option FieldType} {nm : String} {d kc ks rk rn pc : Nat} {lv : List (Option Value)} {st : List Value} {w : Wd} {Q : Option Value → Wd → Prop} {a : Nat} (hd : decode cc pc = .ok (.getfield 83, 3)) (hs : jK w a 0 0) (K : RR g RX2 cc nL ret nm d kc ks rk rn (pc + 3) lv (.int (wI w a 2) :: st) w Q) : RR g RX2 cc nL ret nm d kc ks rk rn pc lv (.ref (gb g + a) :: st) w Q :=
  jr_get (ci := 0) (k := 2) (C := RX0) (T := TX0) (N := 3) flX2_83 huX0 rfl (by decide) (by decide) rfl hs rfl hd K
theorem pfX2_83 {g : Cx} {cc : ByteArray} {nL : Nat} {ret : Option FieldType} {nm : String} {d kc ks rk rn pc : Nat} {lv : List (Option Value)} {st : List Value} {w : Wd} {Q : Option Value → Wd → Prop} {a : Nat} {x : Int32} (hd : decode cc pc = .ok (.putfield 83, 3)) (hs : jK w a 0 0) (K : RR g RX2 cc nL ret nm d kc ks rk rn (pc + 3) lv st (sR w a (upd (wI w a) 2 x)) Q) : RR g RX2 cc nL ret nm d kc ks rk rn pc lv (.int x :: .ref (gb g + a) :: st) w Q :=
  jr_put (ci := 0) (k := 2) (C := RX0) (T := TX0) (N := 3) (ty := .int) (ty0 := tyX0) (w' := sR w a (upd (wI w a) 2 x)) flX2_83 huX0 rfl (by decide) (by decide) rfl tyX0_ok nmX0 (by decide +kernel) rfl rfl (Or.inl rfl) hs (fun _ _ => Nat.le_of_ble_eq_true rfl) rfl (by rw [cE_obj (hs.sR _ _) (by decide), wI_sR_s]; rfl) (fun i hi => cE_sR_o hi) hd K
theorem ckX2_86 : Cond.constant RX2 86 (1103515245) ∈ kw := kw_in (List.mem_of_getElem? (i := 484) (by decide +kernel)) (by decide +kernel)
theorem ckX2_87 : Cond.constant RX2 87 (-1000000001) ∈ kw := kw_in (List.mem_of_getElem? (i := 516) (by decide +kernel)) (by decide +kernel)
theorem lkX2_88 : JV RX2 88 yX2_textAt cX2_textAt 2 (some (.object "StrokesHeard$Text")) 2 1 := ⟨kw_in (List.mem_of_getElem? (i := 411) (by decide +kernel)) (by decide +kernel), kw_in (List.mem_of_getElem? (i := 412) (by decide +kernel)) (by decide +kernel), kw_in (List.mem_of_getElem? (i := 413) (by decide +kernel)) (by decide +kernel), inRX2, kcX2_textAt, ⟨_, rfl, rfl, by decide⟩, by decide +kernel, by decide⟩
theorem flX2_92 : Cond.fieldLink RX2 92 RX5 (TX5 0).2.1 (TX5 0).2.2.1 ∈ kw := kw_in (List.mem_of_getElem? (i := 873) (by decide +kernel)) (by decide +kernel)
theorem gfX2_92 {g : Cx} {cc : ByteArray} {nL : Nat} {ret : Option FieldType} {nm : String} {d kc ks rk rn pc : Nat} {lv : List (Option Value)} {st : List Value} {w : Wd} {Q : Option Value → Wd → Prop} {a : Nat} (hd : decode cc pc = .ok (.getfield 92, 3)) (hs : jK w a 5 0) (K : RR g RX2 cc nL ret nm d kc ks rk rn (pc + 3) lv (.int (wI w a 0) :: st) w Q) : RR g RX2 cc nL ret nm d kc ks rk rn pc lv (.ref (gb g + a) :: st) w Q :=
  jr_get (ci := 5) (k := 0) (C := RX5) (T := TX5) (N := 4) flX2_92 huX5 rfl (by decide) (by decide) rfl hs rfl hd K
theorem lkX2_95 : JV RX2 95 yX2_law cX2_law 2 (some (.object "StrokesHeard$Text")) 2 1 := ⟨kw_in (List.mem_of_getElem? (i := 407) (by decide +kernel)) (by decide +kernel), kw_in (List.mem_of_getElem? (i := 408) (by decide +kernel)) (by decide +kernel), kw_in (List.mem_of_getElem? (i := 409) (by decide +kernel)) (by decide +kernel), inRX2, kcX2_law, ⟨_, rfl, rfl, by decide⟩, by decide +kernel, by decide⟩
theorem lkX2_98 : JV RX2 98 yX5_value cX5_value 7 (some .int) 5 3 := ⟨kw_in (List.mem_of_getElem? (i := 415) (by decide +kernel)) (by decide +kernel), kw_in (List.mem_of_getElem? (i := 416) (by decide +kernel)) (by decide +kernel), kw_in (List.mem_of_getElem? (i := 417) (by decide +kernel)) (by decide +kernel), inRX5, kcX5_value, ⟨_, rfl, rfl, by decide⟩, by decide +kernel, by decide⟩
theorem lkX2_102 : JN RX2 102 yX8_held cX8_held 3 (some .int) 3 ∧ Cond.static yX8_held ∈ kw := ⟨⟨⟨"StrokesHeard", by decide +kernel⟩, inRX8, kcX8_held, by decide +kernel, by decide⟩, kw_in (List.mem_of_getElem? (i := 423) (by decide +kernel)) (by decide +kernel)⟩
theorem lkX2_105 : JS RX2 105 yJ9_floorMod_7cf53 cJ9_floorMod_7cf53 3 (some .int) 2 := ⟨kw_in (List.mem_of_getElem? (i := 395) (by decide +kernel)) (by decide +kernel), kw_in (List.mem_of_getElem? (i := 396) (by decide +kernel)) (by decide +kernel), inRJ9, kcJ9_floorMod_7cf53, by decide +kernel, by decide⟩
theorem lkX2_111 : JN RX2 111 yX8_isUnder cX8_isUnder 4 (some .boolean) 2 ∧ Cond.static yX8_isUnder ∈ kw := ⟨⟨⟨"StrokesHeard", by decide +kernel⟩, inRX8, kcX8_isUnder, by decide +kernel, by decide⟩, kw_in (List.mem_of_getElem? (i := 399) (by decide +kernel)) (by decide +kernel)⟩
theorem lkX2_114 : JV RX2 114 yX2_againMinute cX2_againMinute 5 (some .int) 2 3 := ⟨kw_in (List.mem_of_getElem? (i := 403) (by decide +kernel)) (by decide +kernel), kw_in (List.mem_of_getElem? (i := 404) (by decide +kernel)) (by decide +kernel), kw_in (List.mem_of_getElem? (i := 405) (by decide +kernel)) (by decide +kernel), inRX2, kcX2_againMinute, ⟨_, rfl, rfl, by decide⟩, by decide +kernel, by decide⟩
theorem lkX2_118 : JN RX2 118 yX8_strokesWithin cX8_strokesWithin 4 (some .int) 4 ∧ Cond.static yX8_strokesWithin ∈ kw := ⟨⟨⟨"StrokesHeard", by decide +kernel⟩, inRX8, kcX8_strokesWithin, by decide +kernel, by decide⟩, kw_in (List.mem_of_getElem? (i := 432) (by decide +kernel)) (by decide +kernel)⟩
theorem lkX2_122 : JV RX2 122 yX2_strokesAt cX2_strokesAt 8 (some .int) 2 2 := ⟨kw_in (List.mem_of_getElem? (i := 441) (by decide +kernel)) (by decide +kernel), kw_in (List.mem_of_getElem? (i := 392) (by decide +kernel)) (by decide +kernel), kw_in (List.mem_of_getElem? (i := 393) (by decide +kernel)) (by decide +kernel), inRX2, kcX2_strokesAt, ⟨_, rfl, rfl, by decide⟩, by decide +kernel, by decide⟩
theorem lkX2_126 : JV RX2 126 yX2_timeNow cX2_timeNow 1 (some .int) 2 0 := ⟨kw_in (List.mem_of_getElem? (i := 497) (by decide +kernel)) (by decide +kernel), kw_in (List.mem_of_getElem? (i := 388) (by decide +kernel)) (by decide +kernel), kw_in (List.mem_of_getElem? (i := 389) (by decide +kernel)) (by decide +kernel), inRX2, kcX2_timeNow, ⟨_, rfl, rfl, by decide⟩, by decide +kernel, by decide⟩
theorem lkX2_130 : JV RX2 130 yX2_totalAt cX2_totalAt 4 (some .int) 2 1 := ⟨kw_in (List.mem_of_getElem? (i := 498) (by decide +kernel)) (by decide +kernel), kw_in (List.mem_of_getElem? (i := 469) (by decide +kernel)) (by decide +kernel), kw_in (List.mem_of_getElem? (i := 470) (by decide +kernel)) (by decide +kernel), inRX2, kcX2_totalAt, ⟨_, rfl, rfl, by decide⟩, by decide +kernel, by decide⟩
theorem lkX2_134 : JV RX2 134 yX2_hearMinute cX2_hearMinute 4 none 2 1 := ⟨kw_in (List.mem_of_getElem? (i := 499) (by decide +kernel)) (by decide +kernel), kw_in (List.mem_of_getElem? (i := 501) (by decide +kernel)) (by decide +kernel), kw_in (List.mem_of_getElem? (i := 0) (by decide +kernel)) (by decide +kernel), inRX2, kcX2_hearMinute, ⟨_, rfl, rfl, by decide⟩, by decide +kernel, by decide⟩
theorem lkX2_138 : JV RX2 138 yX2_draw cX2_draw 1 (some .int) 2 0 := ⟨kw_in (List.mem_of_getElem? (i := 503) (by decide +kernel)) (by decide +kernel), kw_in (List.mem_of_getElem? (i := 481) (by decide +kernel)) (by decide +kernel), kw_in (List.mem_of_getElem? (i := 482) (by decide +kernel)) (by decide +kernel), inRX2, kcX2_draw, ⟨_, rfl, rfl, by decide⟩, by decide +kernel, by decide⟩
theorem lkX2_141 : JS RX2 141 yJ9_min_7cf53 cJ9_min_7cf53 2 (some .int) 2 := ⟨kw_in (List.mem_of_getElem? (i := 507) (by decide +kernel)) (by decide +kernel), kw_in (List.mem_of_getElem? (i := 426) (by decide +kernel)) (by decide +kernel), inRJ9, kcJ9_min_7cf53, by decide +kernel, by decide⟩
theorem lkX3_3 : Cond.methodLink RX3 3 objectInit ∈ kw := kw_in (List.mem_of_getElem? (i := 283) (by decide +kernel)) (by decide +kernel)
theorem flX3_9 : Cond.fieldLink RX3 9 RX3 (TX3 0).2.1 (TX3 0).2.2.1 ∈ kw := kw_in (List.mem_of_getElem? (i := 284) (by decide +kernel)) (by decide +kernel)
theorem gfX3_9 {g : Cx} {cc : ByteArray} {nL : Nat} {ret : Option FieldType} {nm : String} {d kc ks rk rn pc : Nat} {lv : List (Option Value)} {st : List Value} {w : Wd} {Q : Option Value → Wd → Prop} {a : Nat} (hd : decode cc pc = .ok (.getfield 9, 3)) (hs : jK w a 3 0) (K : RR g RX3 cc nL ret nm d kc ks rk rn (pc + 3) lv (.int (wI w a 0) :: st) w Q) : RR g RX3 cc nL ret nm d kc ks rk rn pc lv (.ref (gb g + a) :: st) w Q :=
  jr_get (ci := 3) (k := 0) (C := RX3) (T := TX3) (N := 3) flX3_9 huX3 rfl (by decide) (by decide) rfl hs rfl hd K
theorem pfX3_9 {g : Cx} {cc : ByteArray} {nL : Nat} {ret : Option FieldType} {nm : String} {d kc ks rk rn pc : Nat} {lv : List (Option Value)} {st : List Value} {w : Wd} {Q : Option Value → Wd → Prop} {a : Nat} {x : Int32} (hd : decode cc pc = .ok (.putfield 9, 3)) (hs : jK w a 3 0) (K : RR g RX3 cc nL ret nm d kc ks rk rn (pc + 3) lv st (sR w a (upd (wI w a) 0 x)) Q) : RR g RX3 cc nL ret nm d kc ks rk rn pc lv (.int x :: .ref (gb g + a) :: st) w Q :=
  jr_put (ci := 3) (k := 0) (C := RX3) (T := TX3) (N := 3) (ty := .int) (ty0 := tyX3) (w' := sR w a (upd (wI w a) 0 x)) flX3_9 huX3 rfl (by decide) (by decide) rfl tyX3_ok nmX3 (by decide +kernel) rfl rfl (Or.inl rfl) hs (fun _ _ => Nat.le_of_ble_eq_true rfl) rfl (by rw [cE_obj (hs.sR _ _) (by decide), wI_sR_s]; rfl) (fun i hi => cE_sR_o hi) hd K
theorem flX3_15 : Cond.fieldLink RX3 15 RX3 (TX3 1).2.1 (TX3 1).2.2.1 ∈ kw := kw_in (List.mem_of_getElem? (i := 286) (by decide +kernel)) (by decide +kernel)
theorem gfX3_15 {g : Cx} {cc : ByteArray} {nL : Nat} {ret : Option FieldType} {nm : String} {d kc ks rk rn pc : Nat} {lv : List (Option Value)} {st : List Value} {w : Wd} {Q : Option Value → Wd → Prop} {a : Nat} (hd : decode cc pc = .ok (.getfield 15, 3)) (hs : jK w a 3 0) (K : RR g RX3 cc nL ret nm d kc ks rk rn (pc + 3) lv (.int (wI w a 1) :: st) w Q) : RR g RX3 cc nL ret nm d kc ks rk rn pc lv (.ref (gb g + a) :: st) w Q :=
  jr_get (ci := 3) (k := 1) (C := RX3) (T := TX3) (N := 3) flX3_15 huX3 rfl (by decide) (by decide) rfl hs rfl hd K
theorem pfX3_15 {g : Cx} {cc : ByteArray} {nL : Nat} {ret : Option FieldType} {nm : String} {d kc ks rk rn pc : Nat} {lv : List (Option Value)} {st : List Value} {w : Wd} {Q : Option Value → Wd → Prop} {a : Nat} {x : Int32} (hd : decode cc pc = .ok (.putfield 15, 3)) (hs : jK w a 3 0) (K : RR g RX3 cc nL ret nm d kc ks rk rn (pc + 3) lv st (sR w a (upd (wI w a) 1 x)) Q) : RR g RX3 cc nL ret nm d kc ks rk rn pc lv (.int x :: .ref (gb g + a) :: st) w Q :=
  jr_put (ci := 3) (k := 1) (C := RX3) (T := TX3) (N := 3) (ty := .int) (ty0 := tyX3) (w' := sR w a (upd (wI w a) 1 x)) flX3_15 huX3 rfl (by decide) (by decide) rfl tyX3_ok nmX3 (by decide +kernel) rfl rfl (Or.inl rfl) hs (fun _ _ => Nat.le_of_ble_eq_true rfl) rfl (by rw [cE_obj (hs.sR _ _) (by decide), wI_sR_s]; rfl) (fun i hi => cE_sR_o hi) hd K
theorem flX3_18 : Cond.fieldLink RX3 18 RX3 (TX3 2).2.1 (TX3 2).2.2.1 ∈ kw := kw_in (List.mem_of_getElem? (i := 289) (by decide +kernel)) (by decide +kernel)
theorem gfX3_18 {g : Cx} {cc : ByteArray} {nL : Nat} {ret : Option FieldType} {nm : String} {d kc ks rk rn pc : Nat} {lv : List (Option Value)} {st : List Value} {w : Wd} {Q : Option Value → Wd → Prop} {a : Nat} (b : Nat) (hd : decode cc pc = .ok (.getfield 18, 3)) (hs : jK w a 3 0) (hF : wF w a 2 = some b) (K : RR g RX3 cc nL ret nm d kc ks rk rn (pc + 3) lv (.ref (gb g + b) :: st) w Q) : RR g RX3 cc nL ret nm d kc ks rk rn pc lv (.ref (gb g + a) :: st) w Q :=
  jr_get (ci := 3) (k := 2) (C := RX3) (T := TX3) (N := 3) flX3_18 huX3 rfl (by decide) (by decide) rfl hs (by show some (jrf g (wF w a 2)) = some (.ref (gb g + b)); rw [hF]; rfl) hd K
theorem pfX3_18 {g : Cx} {cc : ByteArray} {nL : Nat} {ret : Option FieldType} {d kc ks rk rn pc : Nat} {lv : List (Option Value)} {st : List Value} {w : Wd} {Q : Option Value → Wd → Prop} {a b : Nat} (hd : decode cc pc = .ok (.putfield 18, 3)) (hs : jK w a 3 0) (K : RR g RX3 cc nL ret "<init>" d kc ks rk rn (pc + 3) lv st (sP w a (uF (wF w a) 2 (some b))) Q) : RR g RX3 cc nL ret "<init>" d kc ks rk rn pc lv (.ref (gb g + b) :: .ref (gb g + a) :: st) w Q :=
  jr_put (ci := 3) (k := 2) (C := RX3) (T := TX3) (N := 3) (ty := (.array .int)) (ty0 := tyX3) (w' := sP w a (uF (wF w a) 2 (some b))) flX3_18 huX3 rfl (by decide) (by decide) rfl tyX3_ok nmX3 (by decide +kernel) rfl rfl (Or.inr ⟨rfl, rfl, rfl⟩) hs (fun _ _ => Nat.le_of_ble_eq_true rfl) rfl (by rw [cE_obj (hs.sP _ _) (by decide), wF_sP_s, wI_sP]; rfl) (fun i hi => cE_sP_o hi) hd K
theorem lkX3_22 : JN RX3 22 yX8_held cX8_held 3 (some .int) 3 ∧ Cond.static yX8_held ∈ kw := ⟨⟨⟨"StrokesHeard", by decide +kernel⟩, inRX8, kcX8_held, by decide +kernel, by decide⟩, kw_in (List.mem_of_getElem? (i := 423) (by decide +kernel)) (by decide +kernel)⟩
theorem lkX3_26 : JS RX3 26 yJ7_fill_53178 cJ7_fill_53178 4 none 2 := ⟨kw_in (List.mem_of_getElem? (i := 910) (by decide +kernel)) (by decide +kernel), kw_in (List.mem_of_getElem? (i := 540) (by decide +kernel)) (by decide +kernel), inRJ7, kcJ7_fill_53178, by decide +kernel, by decide⟩
theorem lkX3_32 : Cond.methodLink RX3 32 arraycopyName ∈ kw := kw_in (List.mem_of_getElem? (i := 947) (by decide +kernel)) (by decide +kernel)
theorem lkX3_38 : JN RX3 38 yX8_within cX8_within 2 (some .boolean) 2 ∧ Cond.static yX8_within ∈ kw := ⟨⟨⟨"StrokesHeard", by decide +kernel⟩, inRX8, kcX8_within, by decide +kernel, by decide⟩, kw_in (List.mem_of_getElem? (i := 370) (by decide +kernel)) (by decide +kernel)⟩
theorem ckX3_42 : Cond.constant RX3 42 (-1000000005) ∈ kw := kw_in (List.mem_of_getElem? (i := 625) (by decide +kernel)) (by decide +kernel)
theorem lkX4_3 : Cond.methodLink RX4 3 objectInit ∈ kw := kw_in (List.mem_of_getElem? (i := 303) (by decide +kernel)) (by decide +kernel)
theorem flX4_9 : Cond.fieldLink RX4 9 RX4 (TX4 0).2.1 (TX4 0).2.2.1 ∈ kw := kw_in (List.mem_of_getElem? (i := 308) (by decide +kernel)) (by decide +kernel)
theorem pfX4_9 {g : Cx} {cc : ByteArray} {nL : Nat} {ret : Option FieldType} {nm : String} {d kc ks rk rn pc : Nat} {lv : List (Option Value)} {st : List Value} {w : Wd} {Q : Option Value → Wd → Prop} {a : Nat} {x : Int32} (hd : decode cc pc = .ok (.putfield 9, 3)) (hs : jK w a 4 0) (K : RR g RX4 cc nL ret nm d kc ks rk rn (pc + 3) lv st (sR w a (upd (wI w a) 0 x)) Q) : RR g RX4 cc nL ret nm d kc ks rk rn pc lv (.int x :: .ref (gb g + a) :: st) w Q :=
  jr_put (ci := 4) (k := 0) (C := RX4) (T := TX4) (N := 4) (ty := .int) (ty0 := tyX4) (w' := sR w a (upd (wI w a) 0 x)) flX4_9 huX4 rfl (by decide) (by decide) rfl tyX4_ok nmX4 (by decide +kernel) rfl rfl (Or.inl rfl) hs (fun _ _ => Nat.le_of_ble_eq_true rfl) rfl (by rw [cE_obj (hs.sR _ _) (by decide), wI_sR_s]; rfl) (fun i hi => cE_sR_o hi) hd K
theorem clX4_15 : Cond.classLink RX4 15 RX0 ∈ kw := kw_in (List.mem_of_getElem? (i := 304) (by decide +kernel)) (by decide +kernel)
theorem nwX4_15 {g : Cx} {cc : ByteArray} {nL : Nat} {ret : Option FieldType} {nm : String} {d kc ks rk rn pc : Nat} {lv : List (Option Value)} {st : List Value} {w : Wd} {Q : Option Value → Wd → Prop} (hd : decode cc pc = .ok (.new 15, 3)) (hrk : 1 ≤ rk ∧ 3 ≤ rn) (K : RR g RX4 cc nL ret nm d kc ks (rk - 1) (rn - 3) (pc + 3) lv (.ref (gb g + wn w) :: st) (pN w 0 0) Q) : RR g RX4 cc nL ret nm d kc ks rk rn pc lv st w Q :=
  jr_new (ci := 0) (C := RX0) (T := TX0) (N := 3) (ty0 := tyX0) clX4_15 (instX0) inRX0 huX0 rfl (by decide) tyX0_ok (by decide +kernel) hrk hd K
theorem lkX4_17 : JN RX4 17 yX0_init cX0_init 1 none 0 ∧ Cond.instanceMethod yX0_init ∈ kw ∧ yX0_init.name = "<init>" := ⟨⟨⟨"StrokesHeard", by decide +kernel⟩, inRX0, kcX0_init, by decide +kernel, by decide⟩, kw_in (List.mem_of_getElem? (i := 103) (by decide +kernel)) (by decide +kernel), rfl⟩
theorem flX4_18 : Cond.fieldLink RX4 18 RX4 (TX4 1).2.1 (TX4 1).2.2.1 ∈ kw := kw_in (List.mem_of_getElem? (i := 310) (by decide +kernel)) (by decide +kernel)
theorem pfX4_18 {g : Cx} {cc : ByteArray} {nL : Nat} {ret : Option FieldType} {d kc ks rk rn pc : Nat} {lv : List (Option Value)} {st : List Value} {w : Wd} {Q : Option Value → Wd → Prop} {a b : Nat} (hd : decode cc pc = .ok (.putfield 18, 3)) (hs : jK w a 4 0) (K : RR g RX4 cc nL ret "<init>" d kc ks rk rn (pc + 3) lv st (sP w a (uF (wF w a) 1 (some b))) Q) : RR g RX4 cc nL ret "<init>" d kc ks rk rn pc lv (.ref (gb g + b) :: .ref (gb g + a) :: st) w Q :=
  jr_put (ci := 4) (k := 1) (C := RX4) (T := TX4) (N := 4) (ty := (.object "StrokesHeard$Clock")) (ty0 := tyX4) (w' := sP w a (uF (wF w a) 1 (some b))) flX4_18 huX4 rfl (by decide) (by decide) rfl tyX4_ok nmX4 (by decide +kernel) rfl rfl (Or.inr ⟨rfl, rfl, rfl⟩) hs (fun _ _ => Nat.le_of_ble_eq_true rfl) rfl (by rw [cE_obj (hs.sP _ _) (by decide), wF_sP_s, wI_sP]; rfl) (fun i hi => cE_sP_o hi) hd K
theorem clX4_22 : Cond.classLink RX4 22 RX3 ∈ kw := kw_in (List.mem_of_getElem? (i := 306) (by decide +kernel)) (by decide +kernel)
theorem nwX4_22 {g : Cx} {cc : ByteArray} {nL : Nat} {ret : Option FieldType} {nm : String} {d kc ks rk rn pc : Nat} {lv : List (Option Value)} {st : List Value} {w : Wd} {Q : Option Value → Wd → Prop} (hd : decode cc pc = .ok (.new 22, 3)) (hrk : 1 ≤ rk ∧ 3 ≤ rn) (K : RR g RX4 cc nL ret nm d kc ks (rk - 1) (rn - 3) (pc + 3) lv (.ref (gb g + wn w) :: st) (pN w 3 0) Q) : RR g RX4 cc nL ret nm d kc ks rk rn pc lv st w Q :=
  jr_new (ci := 3) (C := RX3) (T := TX3) (N := 3) (ty0 := tyX3) clX4_22 (instX3) inRX3 huX3 rfl (by decide) tyX3_ok (by decide +kernel) hrk hd K
theorem lkX4_24 : JN RX4 24 yX3_init cX3_init 1 none 0 ∧ Cond.instanceMethod yX3_init ∈ kw ∧ yX3_init.name = "<init>" := ⟨⟨⟨"StrokesHeard", by decide +kernel⟩, inRX3, kcX3_init, by decide +kernel, by decide⟩, kw_in (List.mem_of_getElem? (i := 281) (by decide +kernel)) (by decide +kernel), rfl⟩
theorem flX4_25 : Cond.fieldLink RX4 25 RX4 (TX4 2).2.1 (TX4 2).2.2.1 ∈ kw := kw_in (List.mem_of_getElem? (i := 312) (by decide +kernel)) (by decide +kernel)
theorem pfX4_25 {g : Cx} {cc : ByteArray} {nL : Nat} {ret : Option FieldType} {d kc ks rk rn pc : Nat} {lv : List (Option Value)} {st : List Value} {w : Wd} {Q : Option Value → Wd → Prop} {a b : Nat} (hd : decode cc pc = .ok (.putfield 25, 3)) (hs : jK w a 4 0) (K : RR g RX4 cc nL ret "<init>" d kc ks rk rn (pc + 3) lv st (sP w a (uF (wF w a) 2 (some b))) Q) : RR g RX4 cc nL ret "<init>" d kc ks rk rn pc lv (.ref (gb g + b) :: .ref (gb g + a) :: st) w Q :=
  jr_put (ci := 4) (k := 2) (C := RX4) (T := TX4) (N := 4) (ty := (.object "StrokesHeard$Sheet")) (ty0 := tyX4) (w' := sP w a (uF (wF w a) 2 (some b))) flX4_25 huX4 rfl (by decide) (by decide) rfl tyX4_ok nmX4 (by decide +kernel) rfl rfl (Or.inr ⟨rfl, rfl, rfl⟩) hs (fun _ _ => Nat.le_of_ble_eq_true rfl) rfl (by rw [cE_obj (hs.sP _ _) (by decide), wF_sP_s, wI_sP]; rfl) (fun i hi => cE_sP_o hi) hd K
theorem flX4_29 : Cond.fieldLink RX4 29 RX4 (TX4 3).2.1 (TX4 3).2.2.1 ∈ kw := kw_in (List.mem_of_getElem? (i := 314) (by decide +kernel)) (by decide +kernel)
theorem pfX4_29 {g : Cx} {cc : ByteArray} {nL : Nat} {ret : Option FieldType} {nm : String} {d kc ks rk rn pc : Nat} {lv : List (Option Value)} {st : List Value} {w : Wd} {Q : Option Value → Wd → Prop} {a : Nat} {x : Int32} (hd : decode cc pc = .ok (.putfield 29, 3)) (hs : jK w a 4 0) (K : RR g RX4 cc nL ret nm d kc ks rk rn (pc + 3) lv st (sR w a (upd (wI w a) 3 x)) Q) : RR g RX4 cc nL ret nm d kc ks rk rn pc lv (.int x :: .ref (gb g + a) :: st) w Q :=
  jr_put (ci := 4) (k := 3) (C := RX4) (T := TX4) (N := 4) (ty := .int) (ty0 := tyX4) (w' := sR w a (upd (wI w a) 3 x)) flX4_29 huX4 rfl (by decide) (by decide) rfl tyX4_ok nmX4 (by decide +kernel) rfl rfl (Or.inl rfl) hs (fun _ _ => Nat.le_of_ble_eq_true rfl) rfl (by rw [cE_obj (hs.sR _ _) (by decide), wI_sR_s]; rfl) (fun i hi => cE_sR_o hi) hd K
theorem lkX5_1 : Cond.methodLink RX5 1 objectInit ∈ kw := kw_in (List.mem_of_getElem? (i := 871) (by decide +kernel)) (by decide +kernel)
theorem flX5_7 : Cond.fieldLink RX5 7 RX5 (TX5 0).2.1 (TX5 0).2.2.1 ∈ kw := kw_in (List.mem_of_getElem? (i := 872) (by decide +kernel)) (by decide +kernel)
theorem pfX5_7 {g : Cx} {cc : ByteArray} {nL : Nat} {ret : Option FieldType} {d kc ks rk rn pc : Nat} {lv : List (Option Value)} {st : List Value} {w : Wd} {Q : Option Value → Wd → Prop} {a : Nat} {x : Int32} (hd : decode cc pc = .ok (.putfield 7, 3)) (hs : jK w a 5 0) (K : RR g RX5 cc nL ret "<init>" d kc ks rk rn (pc + 3) lv st (sR w a (upd (wI w a) 0 x)) Q) : RR g RX5 cc nL ret "<init>" d kc ks rk rn pc lv (.int x :: .ref (gb g + a) :: st) w Q :=
  jr_put (ci := 5) (k := 0) (C := RX5) (T := TX5) (N := 4) (ty := .int) (ty0 := tyX5) (w' := sR w a (upd (wI w a) 0 x)) flX5_7 huX5 rfl (by decide) (by decide) rfl tyX5_ok nmX5 (by decide +kernel) rfl rfl (Or.inr ⟨rfl, rfl, rfl⟩) hs (fun _ _ => Nat.le_of_ble_eq_true rfl) rfl (by rw [cE_obj (hs.sR _ _) (by decide), wI_sR_s]; rfl) (fun i hi => cE_sR_o hi) hd K
theorem flX5_13 : Cond.fieldLink RX5 13 RX5 (TX5 1).2.1 (TX5 1).2.2.1 ∈ kw := kw_in (List.mem_of_getElem? (i := 875) (by decide +kernel)) (by decide +kernel)
theorem pfX5_13 {g : Cx} {cc : ByteArray} {nL : Nat} {ret : Option FieldType} {d kc ks rk rn pc : Nat} {lv : List (Option Value)} {st : List Value} {w : Wd} {Q : Option Value → Wd → Prop} {a : Nat} {x : Int32} (hd : decode cc pc = .ok (.putfield 13, 3)) (hs : jK w a 5 0) (K : RR g RX5 cc nL ret "<init>" d kc ks rk rn (pc + 3) lv st (sR w a (upd (wI w a) 1 x)) Q) : RR g RX5 cc nL ret "<init>" d kc ks rk rn pc lv (.int x :: .ref (gb g + a) :: st) w Q :=
  jr_put (ci := 5) (k := 1) (C := RX5) (T := TX5) (N := 4) (ty := .int) (ty0 := tyX5) (w' := sR w a (upd (wI w a) 1 x)) flX5_13 huX5 rfl (by decide) (by decide) rfl tyX5_ok nmX5 (by decide +kernel) rfl rfl (Or.inr ⟨rfl, rfl, rfl⟩) hs (fun _ _ => Nat.le_of_ble_eq_true rfl) rfl (by rw [cE_obj (hs.sR _ _) (by decide), wI_sR_s]; rfl) (fun i hi => cE_sR_o hi) hd K
theorem flX5_16 : Cond.fieldLink RX5 16 RX5 (TX5 2).2.1 (TX5 2).2.2.1 ∈ kw := kw_in (List.mem_of_getElem? (i := 877) (by decide +kernel)) (by decide +kernel)
theorem gfX5_16 {g : Cx} {cc : ByteArray} {nL : Nat} {ret : Option FieldType} {nm : String} {d kc ks rk rn pc : Nat} {lv : List (Option Value)} {st : List Value} {w : Wd} {Q : Option Value → Wd → Prop} {a : Nat} (b : Nat) (hd : decode cc pc = .ok (.getfield 16, 3)) (hs : jK w a 5 0) (hF : wF w a 2 = some b) (K : RR g RX5 cc nL ret nm d kc ks rk rn (pc + 3) lv (.ref (gb g + b) :: st) w Q) : RR g RX5 cc nL ret nm d kc ks rk rn pc lv (.ref (gb g + a) :: st) w Q :=
  jr_get (ci := 5) (k := 2) (C := RX5) (T := TX5) (N := 4) flX5_16 huX5 rfl (by decide) (by decide) rfl hs (by show some (jrf g (wF w a 2)) = some (.ref (gb g + b)); rw [hF]; rfl) hd K
theorem pfX5_16 {g : Cx} {cc : ByteArray} {nL : Nat} {ret : Option FieldType} {d kc ks rk rn pc : Nat} {lv : List (Option Value)} {st : List Value} {w : Wd} {Q : Option Value → Wd → Prop} {a b : Nat} (hd : decode cc pc = .ok (.putfield 16, 3)) (hs : jK w a 5 0) (K : RR g RX5 cc nL ret "<init>" d kc ks rk rn (pc + 3) lv st (sP w a (uF (wF w a) 2 (some b))) Q) : RR g RX5 cc nL ret "<init>" d kc ks rk rn pc lv (.ref (gb g + b) :: .ref (gb g + a) :: st) w Q :=
  jr_put (ci := 5) (k := 2) (C := RX5) (T := TX5) (N := 4) (ty := (.array .int)) (ty0 := tyX5) (w' := sP w a (uF (wF w a) 2 (some b))) flX5_16 huX5 rfl (by decide) (by decide) rfl tyX5_ok nmX5 (by decide +kernel) rfl rfl (Or.inr ⟨rfl, rfl, rfl⟩) hs (fun _ _ => Nat.le_of_ble_eq_true rfl) rfl (by rw [cE_obj (hs.sP _ _) (by decide), wF_sP_s, wI_sP]; rfl) (fun i hi => cE_sP_o hi) hd K
theorem flX5_20 : Cond.fieldLink RX5 20 RX5 (TX5 3).2.1 (TX5 3).2.2.1 ∈ kw := kw_in (List.mem_of_getElem? (i := 878) (by decide +kernel)) (by decide +kernel)
theorem gfX5_20 {g : Cx} {cc : ByteArray} {nL : Nat} {ret : Option FieldType} {nm : String} {d kc ks rk rn pc : Nat} {lv : List (Option Value)} {st : List Value} {w : Wd} {Q : Option Value → Wd → Prop} {a : Nat} (b : Nat) (hd : decode cc pc = .ok (.getfield 20, 3)) (hs : jK w a 5 0) (hF : wF w a 3 = some b) (K : RR g RX5 cc nL ret nm d kc ks rk rn (pc + 3) lv (.ref (gb g + b) :: st) w Q) : RR g RX5 cc nL ret nm d kc ks rk rn pc lv (.ref (gb g + a) :: st) w Q :=
  jr_get (ci := 5) (k := 3) (C := RX5) (T := TX5) (N := 4) flX5_20 huX5 rfl (by decide) (by decide) rfl hs (by show some (jrf g (wF w a 3)) = some (.ref (gb g + b)); rw [hF]; rfl) hd K
theorem pfX5_20 {g : Cx} {cc : ByteArray} {nL : Nat} {ret : Option FieldType} {d kc ks rk rn pc : Nat} {lv : List (Option Value)} {st : List Value} {w : Wd} {Q : Option Value → Wd → Prop} {a b : Nat} (hd : decode cc pc = .ok (.putfield 20, 3)) (hs : jK w a 5 0) (K : RR g RX5 cc nL ret "<init>" d kc ks rk rn (pc + 3) lv st (sP w a (uF (wF w a) 3 (some b))) Q) : RR g RX5 cc nL ret "<init>" d kc ks rk rn pc lv (.ref (gb g + b) :: .ref (gb g + a) :: st) w Q :=
  jr_put (ci := 5) (k := 3) (C := RX5) (T := TX5) (N := 4) (ty := (.array .int)) (ty0 := tyX5) (w' := sP w a (uF (wF w a) 3 (some b))) flX5_20 huX5 rfl (by decide) (by decide) rfl tyX5_ok nmX5 (by decide +kernel) rfl rfl (Or.inr ⟨rfl, rfl, rfl⟩) hs (fun _ _ => Nat.le_of_ble_eq_true rfl) rfl (by rw [cE_obj (hs.sP _ _) (by decide), wF_sP_s, wI_sP]; rfl) (fun i hi => cE_sP_o hi) hd K
theorem lkX5_23 : JS RX5 23 yX5_joined cX5_joined 3 (some .int) 3 := ⟨kw_in (List.mem_of_getElem? (i := 419) (by decide +kernel)) (by decide +kernel), kw_in (List.mem_of_getElem? (i := 420) (by decide +kernel)) (by decide +kernel), inRX5, kcX5_joined, by decide +kernel, by decide⟩
theorem lkX6_3 : Cond.methodLink RX6 3 objectInit ∈ kw := kw_in (List.mem_of_getElem? (i := 244) (by decide +kernel)) (by decide +kernel)
theorem flX6_9 : Cond.fieldLink RX6 9 RX6 (TX6 0).2.1 (TX6 0).2.2.1 ∈ kw := kw_in (List.mem_of_getElem? (i := 245) (by decide +kernel)) (by decide +kernel)
theorem gfX6_9 {g : Cx} {cc : ByteArray} {nL : Nat} {ret : Option FieldType} {nm : String} {d kc ks rk rn pc : Nat} {lv : List (Option Value)} {st : List Value} {w : Wd} {Q : Option Value → Wd → Prop} {a : Nat} (b : Nat) (hd : decode cc pc = .ok (.getfield 9, 3)) (hs : jK w a 6 0) (hF : wF w a 0 = some b) (K : RR g RX6 cc nL ret nm d kc ks rk rn (pc + 3) lv (.ref (gb g + b) :: st) w Q) : RR g RX6 cc nL ret nm d kc ks rk rn pc lv (.ref (gb g + a) :: st) w Q :=
  jr_get (ci := 6) (k := 0) (C := RX6) (T := TX6) (N := 9) flX6_9 huX6 rfl (by decide) (by decide) rfl hs (by show some (jrf g (wF w a 0)) = some (.ref (gb g + b)); rw [hF]; rfl) hd K
theorem pfX6_9 {g : Cx} {cc : ByteArray} {nL : Nat} {ret : Option FieldType} {nm : String} {d kc ks rk rn pc : Nat} {lv : List (Option Value)} {st : List Value} {w : Wd} {Q : Option Value → Wd → Prop} {a b : Nat} (hd : decode cc pc = .ok (.putfield 9, 3)) (hs : jK w a 6 0) (K : RR g RX6 cc nL ret nm d kc ks rk rn (pc + 3) lv st (sP w a (uF (wF w a) 0 (some b))) Q) : RR g RX6 cc nL ret nm d kc ks rk rn pc lv (.ref (gb g + b) :: .ref (gb g + a) :: st) w Q :=
  jr_put (ci := 6) (k := 0) (C := RX6) (T := TX6) (N := 9) (ty := (.array .byte)) (ty0 := tyX6) (w' := sP w a (uF (wF w a) 0 (some b))) flX6_9 huX6 rfl (by decide) (by decide) rfl tyX6_ok nmX6 (by decide +kernel) rfl rfl (Or.inl rfl) hs (fun _ _ => Nat.le_of_ble_eq_true rfl) rfl (by rw [cE_obj (hs.sP _ _) (by decide), wF_sP_s, wI_sP]; rfl) (fun i hi => cE_sP_o hi) hd K
theorem flX6_15 : Cond.fieldLink RX6 15 RX6 (TX6 1).2.1 (TX6 1).2.2.1 ∈ kw := kw_in (List.mem_of_getElem? (i := 246) (by decide +kernel)) (by decide +kernel)
theorem gfX6_15 {g : Cx} {cc : ByteArray} {nL : Nat} {ret : Option FieldType} {nm : String} {d kc ks rk rn pc : Nat} {lv : List (Option Value)} {st : List Value} {w : Wd} {Q : Option Value → Wd → Prop} {a : Nat} (hd : decode cc pc = .ok (.getfield 15, 3)) (hs : jK w a 6 0) (K : RR g RX6 cc nL ret nm d kc ks rk rn (pc + 3) lv (.int (wI w a 1) :: st) w Q) : RR g RX6 cc nL ret nm d kc ks rk rn pc lv (.ref (gb g + a) :: st) w Q :=
  jr_get (ci := 6) (k := 1) (C := RX6) (T := TX6) (N := 9) flX6_15 huX6 rfl (by decide) (by decide) rfl hs rfl hd K
theorem pfX6_15 {g : Cx} {cc : ByteArray} {nL : Nat} {ret : Option FieldType} {nm : String} {d kc ks rk rn pc : Nat} {lv : List (Option Value)} {st : List Value} {w : Wd} {Q : Option Value → Wd → Prop} {a : Nat} {x : Int32} (hd : decode cc pc = .ok (.putfield 15, 3)) (hs : jK w a 6 0) (K : RR g RX6 cc nL ret nm d kc ks rk rn (pc + 3) lv st (sR w a (upd (wI w a) 1 x)) Q) : RR g RX6 cc nL ret nm d kc ks rk rn pc lv (.int x :: .ref (gb g + a) :: st) w Q :=
  jr_put (ci := 6) (k := 1) (C := RX6) (T := TX6) (N := 9) (ty := .int) (ty0 := tyX6) (w' := sR w a (upd (wI w a) 1 x)) flX6_15 huX6 rfl (by decide) (by decide) rfl tyX6_ok nmX6 (by decide +kernel) rfl rfl (Or.inl rfl) hs (fun _ _ => Nat.le_of_ble_eq_true rfl) rfl (by rw [cE_obj (hs.sR _ _) (by decide), wI_sR_s]; rfl) (fun i hi => cE_sR_o hi) hd K
theorem flX6_19 : Cond.fieldLink RX6 19 RX6 (TX6 2).2.1 (TX6 2).2.2.1 ∈ kw := kw_in (List.mem_of_getElem? (i := 247) (by decide +kernel)) (by decide +kernel)
theorem gfX6_19 {g : Cx} {cc : ByteArray} {nL : Nat} {ret : Option FieldType} {nm : String} {d kc ks rk rn pc : Nat} {lv : List (Option Value)} {st : List Value} {w : Wd} {Q : Option Value → Wd → Prop} {a : Nat} (hd : decode cc pc = .ok (.getfield 19, 3)) (hs : jK w a 6 0) (K : RR g RX6 cc nL ret nm d kc ks rk rn (pc + 3) lv (.int (wI w a 2) :: st) w Q) : RR g RX6 cc nL ret nm d kc ks rk rn pc lv (.ref (gb g + a) :: st) w Q :=
  jr_get (ci := 6) (k := 2) (C := RX6) (T := TX6) (N := 9) flX6_19 huX6 rfl (by decide) (by decide) rfl hs rfl hd K
theorem pfX6_19 {g : Cx} {cc : ByteArray} {nL : Nat} {ret : Option FieldType} {nm : String} {d kc ks rk rn pc : Nat} {lv : List (Option Value)} {st : List Value} {w : Wd} {Q : Option Value → Wd → Prop} {a : Nat} {x : Int32} (hd : decode cc pc = .ok (.putfield 19, 3)) (hs : jK w a 6 0) (K : RR g RX6 cc nL ret nm d kc ks rk rn (pc + 3) lv st (sR w a (upd (wI w a) 2 x)) Q) : RR g RX6 cc nL ret nm d kc ks rk rn pc lv (.int x :: .ref (gb g + a) :: st) w Q :=
  jr_put (ci := 6) (k := 2) (C := RX6) (T := TX6) (N := 9) (ty := .int) (ty0 := tyX6) (w' := sR w a (upd (wI w a) 2 x)) flX6_19 huX6 rfl (by decide) (by decide) rfl tyX6_ok nmX6 (by decide +kernel) rfl rfl (Or.inl rfl) hs (fun _ _ => Nat.le_of_ble_eq_true rfl) rfl (by rw [cE_obj (hs.sR _ _) (by decide), wI_sR_s]; rfl) (fun i hi => cE_sR_o hi) hd K
theorem flX6_22 : Cond.fieldLink RX6 22 RX6 (TX6 3).2.1 (TX6 3).2.2.1 ∈ kw := kw_in (List.mem_of_getElem? (i := 248) (by decide +kernel)) (by decide +kernel)
theorem gfX6_22 {g : Cx} {cc : ByteArray} {nL : Nat} {ret : Option FieldType} {nm : String} {d kc ks rk rn pc : Nat} {lv : List (Option Value)} {st : List Value} {w : Wd} {Q : Option Value → Wd → Prop} {a : Nat} (hd : decode cc pc = .ok (.getfield 22, 3)) (hs : jK w a 6 0) (K : RR g RX6 cc nL ret nm d kc ks rk rn (pc + 3) lv (.int (wI w a 3) :: st) w Q) : RR g RX6 cc nL ret nm d kc ks rk rn pc lv (.ref (gb g + a) :: st) w Q :=
  jr_get (ci := 6) (k := 3) (C := RX6) (T := TX6) (N := 9) flX6_22 huX6 rfl (by decide) (by decide) rfl hs rfl hd K
theorem pfX6_22 {g : Cx} {cc : ByteArray} {nL : Nat} {ret : Option FieldType} {nm : String} {d kc ks rk rn pc : Nat} {lv : List (Option Value)} {st : List Value} {w : Wd} {Q : Option Value → Wd → Prop} {a : Nat} {x : Int32} (hd : decode cc pc = .ok (.putfield 22, 3)) (hs : jK w a 6 0) (K : RR g RX6 cc nL ret nm d kc ks rk rn (pc + 3) lv st (sR w a (upd (wI w a) 3 x)) Q) : RR g RX6 cc nL ret nm d kc ks rk rn pc lv (.int x :: .ref (gb g + a) :: st) w Q :=
  jr_put (ci := 6) (k := 3) (C := RX6) (T := TX6) (N := 9) (ty := .int) (ty0 := tyX6) (w' := sR w a (upd (wI w a) 3 x)) flX6_22 huX6 rfl (by decide) (by decide) rfl tyX6_ok nmX6 (by decide +kernel) rfl rfl (Or.inl rfl) hs (fun _ _ => Nat.le_of_ble_eq_true rfl) rfl (by rw [cE_obj (hs.sR _ _) (by decide), wI_sR_s]; rfl) (fun i hi => cE_sR_o hi) hd K
theorem flX6_25 : Cond.fieldLink RX6 25 RX6 (TX6 4).2.1 (TX6 4).2.2.1 ∈ kw := kw_in (List.mem_of_getElem? (i := 250) (by decide +kernel)) (by decide +kernel)
theorem gfX6_25 {g : Cx} {cc : ByteArray} {nL : Nat} {ret : Option FieldType} {nm : String} {d kc ks rk rn pc : Nat} {lv : List (Option Value)} {st : List Value} {w : Wd} {Q : Option Value → Wd → Prop} {a : Nat} (hd : decode cc pc = .ok (.getfield 25, 3)) (hs : jK w a 6 0) (K : RR g RX6 cc nL ret nm d kc ks rk rn (pc + 3) lv (.int (wI w a 4) :: st) w Q) : RR g RX6 cc nL ret nm d kc ks rk rn pc lv (.ref (gb g + a) :: st) w Q :=
  jr_get (ci := 6) (k := 4) (C := RX6) (T := TX6) (N := 9) flX6_25 huX6 rfl (by decide) (by decide) rfl hs rfl hd K
theorem pfX6_25 {g : Cx} {cc : ByteArray} {nL : Nat} {ret : Option FieldType} {nm : String} {d kc ks rk rn pc : Nat} {lv : List (Option Value)} {st : List Value} {w : Wd} {Q : Option Value → Wd → Prop} {a : Nat} {x : Int32} (hd : decode cc pc = .ok (.putfield 25, 3)) (hs : jK w a 6 0) (K : RR g RX6 cc nL ret nm d kc ks rk rn (pc + 3) lv st (sR w a (upd (wI w a) 4 x)) Q) : RR g RX6 cc nL ret nm d kc ks rk rn pc lv (.int x :: .ref (gb g + a) :: st) w Q :=
  jr_put (ci := 6) (k := 4) (C := RX6) (T := TX6) (N := 9) (ty := .int) (ty0 := tyX6) (w' := sR w a (upd (wI w a) 4 x)) flX6_25 huX6 rfl (by decide) (by decide) rfl tyX6_ok nmX6 (by decide +kernel) rfl rfl (Or.inl rfl) hs (fun _ _ => Nat.le_of_ble_eq_true rfl) rfl (by rw [cE_obj (hs.sR _ _) (by decide), wI_sR_s]; rfl) (fun i hi => cE_sR_o hi) hd K
theorem flX6_28 : Cond.fieldLink RX6 28 RX6 (TX6 5).2.1 (TX6 5).2.2.1 ∈ kw := kw_in (List.mem_of_getElem? (i := 251) (by decide +kernel)) (by decide +kernel)
theorem gfX6_28 {g : Cx} {cc : ByteArray} {nL : Nat} {ret : Option FieldType} {nm : String} {d kc ks rk rn pc : Nat} {lv : List (Option Value)} {st : List Value} {w : Wd} {Q : Option Value → Wd → Prop} {a : Nat} (hd : decode cc pc = .ok (.getfield 28, 3)) (hs : jK w a 6 0) (K : RR g RX6 cc nL ret nm d kc ks rk rn (pc + 3) lv (.int (wI w a 5) :: st) w Q) : RR g RX6 cc nL ret nm d kc ks rk rn pc lv (.ref (gb g + a) :: st) w Q :=
  jr_get (ci := 6) (k := 5) (C := RX6) (T := TX6) (N := 9) flX6_28 huX6 rfl (by decide) (by decide) rfl hs rfl hd K
theorem pfX6_28 {g : Cx} {cc : ByteArray} {nL : Nat} {ret : Option FieldType} {nm : String} {d kc ks rk rn pc : Nat} {lv : List (Option Value)} {st : List Value} {w : Wd} {Q : Option Value → Wd → Prop} {a : Nat} {x : Int32} (hd : decode cc pc = .ok (.putfield 28, 3)) (hs : jK w a 6 0) (K : RR g RX6 cc nL ret nm d kc ks rk rn (pc + 3) lv st (sR w a (upd (wI w a) 5 x)) Q) : RR g RX6 cc nL ret nm d kc ks rk rn pc lv (.int x :: .ref (gb g + a) :: st) w Q :=
  jr_put (ci := 6) (k := 5) (C := RX6) (T := TX6) (N := 9) (ty := .int) (ty0 := tyX6) (w' := sR w a (upd (wI w a) 5 x)) flX6_28 huX6 rfl (by decide) (by decide) rfl tyX6_ok nmX6 (by decide +kernel) rfl rfl (Or.inl rfl) hs (fun _ _ => Nat.le_of_ble_eq_true rfl) rfl (by rw [cE_obj (hs.sR _ _) (by decide), wI_sR_s]; rfl) (fun i hi => cE_sR_o hi) hd K
theorem flX6_31 : Cond.fieldLink RX6 31 RX6 (TX6 6).2.1 (TX6 6).2.2.1 ∈ kw := kw_in (List.mem_of_getElem? (i := 252) (by decide +kernel)) (by decide +kernel)
theorem gfX6_31 {g : Cx} {cc : ByteArray} {nL : Nat} {ret : Option FieldType} {nm : String} {d kc ks rk rn pc : Nat} {lv : List (Option Value)} {st : List Value} {w : Wd} {Q : Option Value → Wd → Prop} {a : Nat} (hd : decode cc pc = .ok (.getfield 31, 3)) (hs : jK w a 6 0) (K : RR g RX6 cc nL ret nm d kc ks rk rn (pc + 3) lv (.int (wI w a 6) :: st) w Q) : RR g RX6 cc nL ret nm d kc ks rk rn pc lv (.ref (gb g + a) :: st) w Q :=
  jr_get (ci := 6) (k := 6) (C := RX6) (T := TX6) (N := 9) flX6_31 huX6 rfl (by decide) (by decide) rfl hs rfl hd K
theorem pfX6_31 {g : Cx} {cc : ByteArray} {nL : Nat} {ret : Option FieldType} {nm : String} {d kc ks rk rn pc : Nat} {lv : List (Option Value)} {st : List Value} {w : Wd} {Q : Option Value → Wd → Prop} {a : Nat} {x : Int32} (hd : decode cc pc = .ok (.putfield 31, 3)) (hs : jK w a 6 0) (K : RR g RX6 cc nL ret nm d kc ks rk rn (pc + 3) lv st (sR w a (upd (wI w a) 6 x)) Q) : RR g RX6 cc nL ret nm d kc ks rk rn pc lv (.int x :: .ref (gb g + a) :: st) w Q :=
  jr_put (ci := 6) (k := 6) (C := RX6) (T := TX6) (N := 9) (ty := .int) (ty0 := tyX6) (w' := sR w a (upd (wI w a) 6 x)) flX6_31 huX6 rfl (by decide) (by decide) rfl tyX6_ok nmX6 (by decide +kernel) rfl rfl (Or.inl rfl) hs (fun _ _ => Nat.le_of_ble_eq_true rfl) rfl (by rw [cE_obj (hs.sR _ _) (by decide), wI_sR_s]; rfl) (fun i hi => cE_sR_o hi) hd K
theorem flX6_34 : Cond.fieldLink RX6 34 RX6 (TX6 7).2.1 (TX6 7).2.2.1 ∈ kw := kw_in (List.mem_of_getElem? (i := 253) (by decide +kernel)) (by decide +kernel)
theorem gfX6_34 {g : Cx} {cc : ByteArray} {nL : Nat} {ret : Option FieldType} {nm : String} {d kc ks rk rn pc : Nat} {lv : List (Option Value)} {st : List Value} {w : Wd} {Q : Option Value → Wd → Prop} {a : Nat} (b : Nat) (hd : decode cc pc = .ok (.getfield 34, 3)) (hs : jK w a 6 0) (hF : wF w a 7 = some b) (K : RR g RX6 cc nL ret nm d kc ks rk rn (pc + 3) lv (.ref (gb g + b) :: st) w Q) : RR g RX6 cc nL ret nm d kc ks rk rn pc lv (.ref (gb g + a) :: st) w Q :=
  jr_get (ci := 6) (k := 7) (C := RX6) (T := TX6) (N := 9) flX6_34 huX6 rfl (by decide) (by decide) rfl hs (by show some (jrf g (wF w a 7)) = some (.ref (gb g + b)); rw [hF]; rfl) hd K
theorem pfX6_34 {g : Cx} {cc : ByteArray} {nL : Nat} {ret : Option FieldType} {d kc ks rk rn pc : Nat} {lv : List (Option Value)} {st : List Value} {w : Wd} {Q : Option Value → Wd → Prop} {a b : Nat} (hd : decode cc pc = .ok (.putfield 34, 3)) (hs : jK w a 6 0) (K : RR g RX6 cc nL ret "<init>" d kc ks rk rn (pc + 3) lv st (sP w a (uF (wF w a) 7 (some b))) Q) : RR g RX6 cc nL ret "<init>" d kc ks rk rn pc lv (.ref (gb g + b) :: .ref (gb g + a) :: st) w Q :=
  jr_put (ci := 6) (k := 7) (C := RX6) (T := TX6) (N := 9) (ty := (.array .int)) (ty0 := tyX6) (w' := sP w a (uF (wF w a) 7 (some b))) flX6_34 huX6 rfl (by decide) (by decide) rfl tyX6_ok nmX6 (by decide +kernel) rfl rfl (Or.inr ⟨rfl, rfl, rfl⟩) hs (fun _ _ => Nat.le_of_ble_eq_true rfl) rfl (by rw [cE_obj (hs.sP _ _) (by decide), wF_sP_s, wI_sP]; rfl) (fun i hi => cE_sP_o hi) hd K
theorem flX6_38 : Cond.fieldLink RX6 38 RX6 (TX6 8).2.1 (TX6 8).2.2.1 ∈ kw := kw_in (List.mem_of_getElem? (i := 254) (by decide +kernel)) (by decide +kernel)
theorem gfX6_38 {g : Cx} {cc : ByteArray} {nL : Nat} {ret : Option FieldType} {nm : String} {d kc ks rk rn pc : Nat} {lv : List (Option Value)} {st : List Value} {w : Wd} {Q : Option Value → Wd → Prop} {a : Nat} (hd : decode cc pc = .ok (.getfield 38, 3)) (hs : jK w a 6 0) (K : RR g RX6 cc nL ret nm d kc ks rk rn (pc + 3) lv (.int (wI w a 8) :: st) w Q) : RR g RX6 cc nL ret nm d kc ks rk rn pc lv (.ref (gb g + a) :: st) w Q :=
  jr_get (ci := 6) (k := 8) (C := RX6) (T := TX6) (N := 9) flX6_38 huX6 rfl (by decide) (by decide) rfl hs rfl hd K
theorem pfX6_38 {g : Cx} {cc : ByteArray} {nL : Nat} {ret : Option FieldType} {nm : String} {d kc ks rk rn pc : Nat} {lv : List (Option Value)} {st : List Value} {w : Wd} {Q : Option Value → Wd → Prop} {a : Nat} {x : Int32} (hd : decode cc pc = .ok (.putfield 38, 3)) (hs : jK w a 6 0) (K : RR g RX6 cc nL ret nm d kc ks rk rn (pc + 3) lv st (sR w a (upd (wI w a) 8 x)) Q) : RR g RX6 cc nL ret nm d kc ks rk rn pc lv (.int x :: .ref (gb g + a) :: st) w Q :=
  jr_put (ci := 6) (k := 8) (C := RX6) (T := TX6) (N := 9) (ty := .int) (ty0 := tyX6) (w' := sR w a (upd (wI w a) 8 x)) flX6_38 huX6 rfl (by decide) (by decide) rfl tyX6_ok nmX6 (by decide +kernel) rfl rfl (Or.inl rfl) hs (fun _ _ => Nat.le_of_ble_eq_true rfl) rfl (by rw [cE_obj (hs.sR _ _) (by decide), wI_sR_s]; rfl) (fun i hi => cE_sR_o hi) hd K
theorem lkX6_41 : JS RX6 41 yJ9_min_7cf53 cJ9_min_7cf53 2 (some .int) 2 := ⟨kw_in (List.mem_of_getElem? (i := 675) (by decide +kernel)) (by decide +kernel), kw_in (List.mem_of_getElem? (i := 426) (by decide +kernel)) (by decide +kernel), inRJ9, kcJ9_min_7cf53, by decide +kernel, by decide⟩
theorem lkX6_47 : JV RX6 47 yX6_advance cX6_advance 3 none 6 0 := ⟨kw_in (List.mem_of_getElem? (i := 676) (by decide +kernel)) (by decide +kernel), kw_in (List.mem_of_getElem? (i := 678) (by decide +kernel)) (by decide +kernel), kw_in (List.mem_of_getElem? (i := 5) (by decide +kernel)) (by decide +kernel), inRX6, kcX6_advance, ⟨_, rfl, rfl, by decide⟩, by decide +kernel, by decide⟩
theorem lkX6_50 : JV RX6 50 yX6_readKey cX6_readKey 1 (some .boolean) 6 0 := ⟨kw_in (List.mem_of_getElem? (i := 686) (by decide +kernel)) (by decide +kernel), kw_in (List.mem_of_getElem? (i := 688) (by decide +kernel)) (by decide +kernel), kw_in (List.mem_of_getElem? (i := 6) (by decide +kernel)) (by decide +kernel), inRX6, kcX6_readKey, ⟨_, rfl, rfl, by decide⟩, by decide +kernel, by decide⟩
theorem lkX6_54 : JV RX6 54 yX6_readOr cX6_readOr 5 (some .boolean) 6 2 := ⟨kw_in (List.mem_of_getElem? (i := 745) (by decide +kernel)) (by decide +kernel), kw_in (List.mem_of_getElem? (i := 747) (by decide +kernel)) (by decide +kernel), kw_in (List.mem_of_getElem? (i := 8) (by decide +kernel)) (by decide +kernel), inRX6, kcX6_readOr, ⟨_, rfl, rfl, by decide⟩, by decide +kernel, by decide⟩
theorem clX6_58 : Cond.classLink RX6 58 RX5 ∈ kw := kw_in (List.mem_of_getElem? (i := 854) (by decide +kernel)) (by decide +kernel)
theorem nwX6_58 {g : Cx} {cc : ByteArray} {nL : Nat} {ret : Option FieldType} {nm : String} {d kc ks rk rn pc : Nat} {lv : List (Option Value)} {st : List Value} {w : Wd} {Q : Option Value → Wd → Prop} (hd : decode cc pc = .ok (.new 58, 3)) (hrk : 1 ≤ rk ∧ 4 ≤ rn) (K : RR g RX6 cc nL ret nm d kc ks (rk - 1) (rn - 4) (pc + 3) lv (.ref (gb g + wn w) :: st) (pN w 5 0) Q) : RR g RX6 cc nL ret nm d kc ks rk rn pc lv st w Q :=
  jr_new (ci := 5) (C := RX5) (T := TX5) (N := 4) (ty0 := tyX5) clX6_58 (instX5) inRX5 huX5 rfl (by decide) tyX5_ok (by decide +kernel) hrk hd K
theorem lkX6_60 : JS RX6 60 yJ7_copyOf_59c91 cJ7_copyOf_59c91 3 (some (.array .int)) 2 := ⟨kw_in (List.mem_of_getElem? (i := 856) (by decide +kernel)) (by decide +kernel), kw_in (List.mem_of_getElem? (i := 857) (by decide +kernel)) (by decide +kernel), inRJ7, kcJ7_copyOf_59c91, by decide +kernel, by decide⟩
theorem lkX6_66 : Cond.methodLink RX6 66 yX5_init ∈ kw ∧ Cond.instanceMethod yX5_init ∈ kw ∧ Cond.initialized yX5_init.cls ∈ kw ∧ Cond.code yX5_init cX5_init 4 none ∈ kw ∧ (yX5_init.cls ≠ "java/lang/invoke/MethodHandle" ∧ yX5_init.cls ≠ "java/lang/invoke/VarHandle" ∧ (parseMethodDescriptor yX5_init.desc).map (fun d => d.parameters.length) = some 3) ∧ 4 ≤ 21 ∧ yX5_init.name = "<init>" := ⟨kw_in (List.mem_of_getElem? (i := 868) (by decide +kernel)) (by decide +kernel), kw_in (List.mem_of_getElem? (i := 869) (by decide +kernel)) (by decide +kernel), inRX5, kcX5_init, by decide +kernel, by decide, rfl⟩
theorem lkX6_69 : JS RX6 69 yX6_isLetter cX6_isLetter 1 (some .boolean) 1 := ⟨kw_in (List.mem_of_getElem? (i := 680) (by decide +kernel)) (by decide +kernel), kw_in (List.mem_of_getElem? (i := 681) (by decide +kernel)) (by decide +kernel), inRX6, kcX6_isLetter, by decide +kernel, by decide⟩
theorem lkX6_73 : JS RX6 73 yX6_isDigit cX6_isDigit 1 (some .boolean) 1 := ⟨kw_in (List.mem_of_getElem? (i := 683) (by decide +kernel)) (by decide +kernel), kw_in (List.mem_of_getElem? (i := 684) (by decide +kernel)) (by decide +kernel), inRX6, kcX6_isDigit, by decide +kernel, by decide⟩
theorem lkX6_76 : Cond.methodLink RX6 76 yJ0_length_8abf5 ∈ kw ∧ Cond.instanceMethod yJ0_length_8abf5 ∈ kw ∧ Cond.selects yJ0_length_8abf5.cls yJ0_length_8abf5 yJ0_length_8abf5 ∈ kw ∧ Cond.initialized yJ0_length_8abf5.cls ∈ kw ∧ Cond.code yJ0_length_8abf5 cJ0_length_8abf5 1 (some .int) ∈ kw ∧ yJ0_length_8abf5.cls = "java/lang/String" ∧ (yJ0_length_8abf5.cls ≠ "java/lang/invoke/MethodHandle" ∧ yJ0_length_8abf5.cls ≠ "java/lang/invoke/VarHandle" ∧ (parseMethodDescriptor yJ0_length_8abf5.desc).map (fun d => d.parameters.length) = some 0) ∧ 1 ≤ 21 := ⟨kw_in (List.mem_of_getElem? (i := 695) (by decide +kernel)) (by decide +kernel), kw_in (List.mem_of_getElem? (i := 696) (by decide +kernel)) (by decide +kernel), kw_in (List.mem_of_getElem? (i := 697) (by decide +kernel)) (by decide +kernel), inRJ0, kcJ0_length_8abf5, rfl, by decide +kernel, by decide⟩
theorem lkX6_81 : Cond.methodLink RX6 81 yJ0_charAt_5068e ∈ kw ∧ Cond.instanceMethod yJ0_charAt_5068e ∈ kw ∧ Cond.selects yJ0_charAt_5068e.cls yJ0_charAt_5068e yJ0_charAt_5068e ∈ kw ∧ Cond.initialized yJ0_charAt_5068e.cls ∈ kw ∧ Cond.code yJ0_charAt_5068e cJ0_charAt_5068e 2 (some .char) ∈ kw ∧ yJ0_charAt_5068e.cls = "java/lang/String" ∧ (yJ0_charAt_5068e.cls ≠ "java/lang/invoke/MethodHandle" ∧ yJ0_charAt_5068e.cls ≠ "java/lang/invoke/VarHandle" ∧ (parseMethodDescriptor yJ0_charAt_5068e.desc).map (fun d => d.parameters.length) = some 1) ∧ 2 ≤ 21 := ⟨kw_in (List.mem_of_getElem? (i := 705) (by decide +kernel)) (by decide +kernel), kw_in (List.mem_of_getElem? (i := 706) (by decide +kernel)) (by decide +kernel), kw_in (List.mem_of_getElem? (i := 707) (by decide +kernel)) (by decide +kernel), inRJ0, kcJ0_charAt_5068e, rfl, by decide +kernel, by decide⟩
theorem lkX6_85 : JV RX6 85 yX6_isSign cX6_isSign 2 (some .boolean) 6 1 := ⟨kw_in (List.mem_of_getElem? (i := 839) (by decide +kernel)) (by decide +kernel), kw_in (List.mem_of_getElem? (i := 841) (by decide +kernel)) (by decide +kernel), kw_in (List.mem_of_getElem? (i := 17) (by decide +kernel)) (by decide +kernel), inRX6, kcX6_isSign, ⟨_, rfl, rfl, by decide⟩, by decide +kernel, by decide⟩
theorem lkX6_91 : JV RX6 91 yX6_isWord cX6_isWord 3 (some .boolean) 6 1 := ⟨kw_in (List.mem_of_getElem? (i := 691) (by decide +kernel)) (by decide +kernel), kw_in (List.mem_of_getElem? (i := 693) (by decide +kernel)) (by decide +kernel), kw_in (List.mem_of_getElem? (i := 7) (by decide +kernel)) (by decide +kernel), inRX6, kcX6_isWord, ⟨_, rfl, rfl, by decide⟩, by decide +kernel, by decide⟩
theorem lkX6_99 : JV RX6 99 yX6_readAnd cX6_readAnd 5 (some .boolean) 6 2 := ⟨kw_in (List.mem_of_getElem? (i := 749) (by decide +kernel)) (by decide +kernel), kw_in (List.mem_of_getElem? (i := 751) (by decide +kernel)) (by decide +kernel), kw_in (List.mem_of_getElem? (i := 9) (by decide +kernel)) (by decide +kernel), inRX6, kcX6_readAnd, ⟨_, rfl, rfl, by decide⟩, by decide +kernel, by decide⟩
theorem lkX6_102 : JV RX6 102 yX6_addStep cX6_addStep 2 none 6 1 := ⟨kw_in (List.mem_of_getElem? (i := 773) (by decide +kernel)) (by decide +kernel), kw_in (List.mem_of_getElem? (i := 775) (by decide +kernel)) (by decide +kernel), kw_in (List.mem_of_getElem? (i := 15) (by decide +kernel)) (by decide +kernel), inRX6, kcX6_addStep, ⟨_, rfl, rfl, by decide⟩, by decide +kernel, by decide⟩
theorem lkX6_106 : JV RX6 106 yX6_readTest cX6_readTest 5 (some .boolean) 6 2 := ⟨kw_in (List.mem_of_getElem? (i := 753) (by decide +kernel)) (by decide +kernel), kw_in (List.mem_of_getElem? (i := 755) (by decide +kernel)) (by decide +kernel), kw_in (List.mem_of_getElem? (i := 10) (by decide +kernel)) (by decide +kernel), inRX6, kcX6_readTest, ⟨_, rfl, rfl, by decide⟩, by decide +kernel, by decide⟩
theorem lkX6_109 : JV RX6 109 yX6_readSum cX6_readSum 6 (some .boolean) 6 2 := ⟨kw_in (List.mem_of_getElem? (i := 757) (by decide +kernel)) (by decide +kernel), kw_in (List.mem_of_getElem? (i := 759) (by decide +kernel)) (by decide +kernel), kw_in (List.mem_of_getElem? (i := 11) (by decide +kernel)) (by decide +kernel), inRX6, kcX6_readSum, ⟨_, rfl, rfl, by decide⟩, by decide +kernel, by decide⟩
theorem lkX6_114 : JV RX6 114 yX6_signAmong cX6_signAmong 3 (some .int) 6 1 := ⟨kw_in (List.mem_of_getElem? (i := 844) (by decide +kernel)) (by decide +kernel), kw_in (List.mem_of_getElem? (i := 846) (by decide +kernel)) (by decide +kernel), kw_in (List.mem_of_getElem? (i := 18) (by decide +kernel)) (by decide +kernel), inRX6, kcX6_signAmong, ⟨_, rfl, rfl, by decide⟩, by decide +kernel, by decide⟩
theorem lkX6_118 : JV RX6 118 yX6_readTerm cX6_readTerm 6 (some .boolean) 6 2 := ⟨kw_in (List.mem_of_getElem? (i := 761) (by decide +kernel)) (by decide +kernel), kw_in (List.mem_of_getElem? (i := 763) (by decide +kernel)) (by decide +kernel), kw_in (List.mem_of_getElem? (i := 12) (by decide +kernel)) (by decide +kernel), inRX6, kcX6_readTerm, ⟨_, rfl, rfl, by decide⟩, by decide +kernel, by decide⟩
theorem lkX6_123 : JV RX6 123 yX6_readPiece cX6_readPiece 4 (some .boolean) 6 2 := ⟨kw_in (List.mem_of_getElem? (i := 765) (by decide +kernel)) (by decide +kernel), kw_in (List.mem_of_getElem? (i := 767) (by decide +kernel)) (by decide +kernel), kw_in (List.mem_of_getElem? (i := 13) (by decide +kernel)) (by decide +kernel), inRX6, kcX6_readPiece, ⟨_, rfl, rfl, by decide⟩, by decide +kernel, by decide⟩
theorem lkX6_128 : JV RX6 128 yX6_readNumber cX6_readNumber 3 (some .boolean) 6 0 := ⟨kw_in (List.mem_of_getElem? (i := 769) (by decide +kernel)) (by decide +kernel), kw_in (List.mem_of_getElem? (i := 771) (by decide +kernel)) (by decide +kernel), kw_in (List.mem_of_getElem? (i := 14) (by decide +kernel)) (by decide +kernel), inRX6, kcX6_readNumber, ⟨_, rfl, rfl, by decide⟩, by decide +kernel, by decide⟩
theorem lkX6_131 : JV RX6 131 yX6_readName cX6_readName 3 (some .boolean) 6 0 := ⟨kw_in (List.mem_of_getElem? (i := 777) (by decide +kernel)) (by decide +kernel), kw_in (List.mem_of_getElem? (i := 779) (by decide +kernel)) (by decide +kernel), kw_in (List.mem_of_getElem? (i := 16) (by decide +kernel)) (by decide +kernel), inRX6, kcX6_readName, ⟨_, rfl, rfl, by decide⟩, by decide +kernel, by decide⟩
theorem lkX6_140 : Cond.methodLink RX6 140 yJ0_indexOf_0f7a4 ∈ kw ∧ Cond.instanceMethod yJ0_indexOf_0f7a4 ∈ kw ∧ Cond.selects yJ0_indexOf_0f7a4.cls yJ0_indexOf_0f7a4 yJ0_indexOf_0f7a4 ∈ kw ∧ Cond.initialized yJ0_indexOf_0f7a4.cls ∈ kw ∧ Cond.code yJ0_indexOf_0f7a4 cJ0_indexOf_0f7a4 2 (some .int) ∈ kw ∧ yJ0_indexOf_0f7a4.cls = "java/lang/String" ∧ (yJ0_indexOf_0f7a4.cls ≠ "java/lang/invoke/MethodHandle" ∧ yJ0_indexOf_0f7a4.cls ≠ "java/lang/invoke/VarHandle" ∧ (parseMethodDescriptor yJ0_indexOf_0f7a4.desc).map (fun d => d.parameters.length) = some 1) ∧ 2 ≤ 21 := ⟨kw_in (List.mem_of_getElem? (i := 784) (by decide +kernel)) (by decide +kernel), kw_in (List.mem_of_getElem? (i := 785) (by decide +kernel)) (by decide +kernel), kw_in (List.mem_of_getElem? (i := 786) (by decide +kernel)) (by decide +kernel), inRJ0, kcJ0_indexOf_0f7a4, rfl, by decide +kernel, by decide⟩
theorem lkX7_3 : Cond.methodLink RX7 3 objectInit ∈ kw := kw_in (List.mem_of_getElem? (i := 219) (by decide +kernel)) (by decide +kernel)
theorem flX7_9 : Cond.fieldLink RX7 9 RX7 (TX7 0).2.1 (TX7 0).2.2.1 ∈ kw := kw_in (List.mem_of_getElem? (i := 220) (by decide +kernel)) (by decide +kernel)
theorem gfX7_9 {g : Cx} {cc : ByteArray} {nL : Nat} {ret : Option FieldType} {nm : String} {d kc ks rk rn pc : Nat} {lv : List (Option Value)} {st : List Value} {w : Wd} {Q : Option Value → Wd → Prop} {a : Nat} (b : Nat) (hd : decode cc pc = .ok (.getfield 9, 3)) (hs : jK w a 7 0) (hF : wF w a 0 = some b) (K : RR g RX7 cc nL ret nm d kc ks rk rn (pc + 3) lv (.ref (gb g + b) :: st) w Q) : RR g RX7 cc nL ret nm d kc ks rk rn pc lv (.ref (gb g + a) :: st) w Q :=
  jr_get (ci := 7) (k := 0) (C := RX7) (T := TX7) (N := 6) flX7_9 huX7 rfl (by decide) (by decide) rfl hs (by show some (jrf g (wF w a 0)) = some (.ref (gb g + b)); rw [hF]; rfl) hd K
theorem pfX7_9 {g : Cx} {cc : ByteArray} {nL : Nat} {ret : Option FieldType} {d kc ks rk rn pc : Nat} {lv : List (Option Value)} {st : List Value} {w : Wd} {Q : Option Value → Wd → Prop} {a b : Nat} (hd : decode cc pc = .ok (.putfield 9, 3)) (hs : jK w a 7 0) (K : RR g RX7 cc nL ret "<init>" d kc ks rk rn (pc + 3) lv st (sP w a (uF (wF w a) 0 (some b))) Q) : RR g RX7 cc nL ret "<init>" d kc ks rk rn pc lv (.ref (gb g + b) :: .ref (gb g + a) :: st) w Q :=
  jr_put (ci := 7) (k := 0) (C := RX7) (T := TX7) (N := 6) (ty := (.array .int)) (ty0 := tyX7) (w' := sP w a (uF (wF w a) 0 (some b))) flX7_9 huX7 rfl (by decide) (by decide) rfl tyX7_ok nmX7 (by decide +kernel) rfl rfl (Or.inr ⟨rfl, rfl, rfl⟩) hs (fun _ _ => Nat.le_of_ble_eq_true rfl) rfl (by rw [cE_obj (hs.sP _ _) (by decide), wF_sP_s, wI_sP]; rfl) (fun i hi => cE_sP_o hi) hd K
theorem flX7_15 : Cond.fieldLink RX7 15 RX7 (TX7 1).2.1 (TX7 1).2.2.1 ∈ kw := kw_in (List.mem_of_getElem? (i := 221) (by decide +kernel)) (by decide +kernel)
theorem gfX7_15 {g : Cx} {cc : ByteArray} {nL : Nat} {ret : Option FieldType} {nm : String} {d kc ks rk rn pc : Nat} {lv : List (Option Value)} {st : List Value} {w : Wd} {Q : Option Value → Wd → Prop} {a : Nat} (b : Nat) (hd : decode cc pc = .ok (.getfield 15, 3)) (hs : jK w a 7 0) (hF : wF w a 1 = some b) (K : RR g RX7 cc nL ret nm d kc ks rk rn (pc + 3) lv (.ref (gb g + b) :: st) w Q) : RR g RX7 cc nL ret nm d kc ks rk rn pc lv (.ref (gb g + a) :: st) w Q :=
  jr_get (ci := 7) (k := 1) (C := RX7) (T := TX7) (N := 6) flX7_15 huX7 rfl (by decide) (by decide) rfl hs (by show some (jrf g (wF w a 1)) = some (.ref (gb g + b)); rw [hF]; rfl) hd K
theorem pfX7_15 {g : Cx} {cc : ByteArray} {nL : Nat} {ret : Option FieldType} {d kc ks rk rn pc : Nat} {lv : List (Option Value)} {st : List Value} {w : Wd} {Q : Option Value → Wd → Prop} {a b : Nat} (hd : decode cc pc = .ok (.putfield 15, 3)) (hs : jK w a 7 0) (K : RR g RX7 cc nL ret "<init>" d kc ks rk rn (pc + 3) lv st (sP w a (uF (wF w a) 1 (some b))) Q) : RR g RX7 cc nL ret "<init>" d kc ks rk rn pc lv (.ref (gb g + b) :: .ref (gb g + a) :: st) w Q :=
  jr_put (ci := 7) (k := 1) (C := RX7) (T := TX7) (N := 6) (ty := (.array .int)) (ty0 := tyX7) (w' := sP w a (uF (wF w a) 1 (some b))) flX7_15 huX7 rfl (by decide) (by decide) rfl tyX7_ok nmX7 (by decide +kernel) rfl rfl (Or.inr ⟨rfl, rfl, rfl⟩) hs (fun _ _ => Nat.le_of_ble_eq_true rfl) rfl (by rw [cE_obj (hs.sP _ _) (by decide), wF_sP_s, wI_sP]; rfl) (fun i hi => cE_sP_o hi) hd K
theorem flX7_18 : Cond.fieldLink RX7 18 RX7 (TX7 2).2.1 (TX7 2).2.2.1 ∈ kw := kw_in (List.mem_of_getElem? (i := 222) (by decide +kernel)) (by decide +kernel)
theorem gfX7_18 {g : Cx} {cc : ByteArray} {nL : Nat} {ret : Option FieldType} {nm : String} {d kc ks rk rn pc : Nat} {lv : List (Option Value)} {st : List Value} {w : Wd} {Q : Option Value → Wd → Prop} {a : Nat} (b : Nat) (hd : decode cc pc = .ok (.getfield 18, 3)) (hs : jK w a 7 0) (hF : wF w a 2 = some b) (K : RR g RX7 cc nL ret nm d kc ks rk rn (pc + 3) lv (.ref (gb g + b) :: st) w Q) : RR g RX7 cc nL ret nm d kc ks rk rn pc lv (.ref (gb g + a) :: st) w Q :=
  jr_get (ci := 7) (k := 2) (C := RX7) (T := TX7) (N := 6) flX7_18 huX7 rfl (by decide) (by decide) rfl hs (by show some (jrf g (wF w a 2)) = some (.ref (gb g + b)); rw [hF]; rfl) hd K
theorem pfX7_18 {g : Cx} {cc : ByteArray} {nL : Nat} {ret : Option FieldType} {d kc ks rk rn pc : Nat} {lv : List (Option Value)} {st : List Value} {w : Wd} {Q : Option Value → Wd → Prop} {a b : Nat} (hd : decode cc pc = .ok (.putfield 18, 3)) (hs : jK w a 7 0) (K : RR g RX7 cc nL ret "<init>" d kc ks rk rn (pc + 3) lv st (sP w a (uF (wF w a) 2 (some b))) Q) : RR g RX7 cc nL ret "<init>" d kc ks rk rn pc lv (.ref (gb g + b) :: .ref (gb g + a) :: st) w Q :=
  jr_put (ci := 7) (k := 2) (C := RX7) (T := TX7) (N := 6) (ty := (.array .int)) (ty0 := tyX7) (w' := sP w a (uF (wF w a) 2 (some b))) flX7_18 huX7 rfl (by decide) (by decide) rfl tyX7_ok nmX7 (by decide +kernel) rfl rfl (Or.inr ⟨rfl, rfl, rfl⟩) hs (fun _ _ => Nat.le_of_ble_eq_true rfl) rfl (by rw [cE_obj (hs.sP _ _) (by decide), wF_sP_s, wI_sP]; rfl) (fun i hi => cE_sP_o hi) hd K
theorem flX7_21 : Cond.fieldLink RX7 21 RX7 (TX7 3).2.1 (TX7 3).2.2.1 ∈ kw := kw_in (List.mem_of_getElem? (i := 223) (by decide +kernel)) (by decide +kernel)
theorem gfX7_21 {g : Cx} {cc : ByteArray} {nL : Nat} {ret : Option FieldType} {nm : String} {d kc ks rk rn pc : Nat} {lv : List (Option Value)} {st : List Value} {w : Wd} {Q : Option Value → Wd → Prop} {a : Nat} (b : Nat) (hd : decode cc pc = .ok (.getfield 21, 3)) (hs : jK w a 7 0) (hF : wF w a 3 = some b) (K : RR g RX7 cc nL ret nm d kc ks rk rn (pc + 3) lv (.ref (gb g + b) :: st) w Q) : RR g RX7 cc nL ret nm d kc ks rk rn pc lv (.ref (gb g + a) :: st) w Q :=
  jr_get (ci := 7) (k := 3) (C := RX7) (T := TX7) (N := 6) flX7_21 huX7 rfl (by decide) (by decide) rfl hs (by show some (jrf g (wF w a 3)) = some (.ref (gb g + b)); rw [hF]; rfl) hd K
theorem pfX7_21 {g : Cx} {cc : ByteArray} {nL : Nat} {ret : Option FieldType} {d kc ks rk rn pc : Nat} {lv : List (Option Value)} {st : List Value} {w : Wd} {Q : Option Value → Wd → Prop} {a b : Nat} (hd : decode cc pc = .ok (.putfield 21, 3)) (hs : jK w a 7 0) (K : RR g RX7 cc nL ret "<init>" d kc ks rk rn (pc + 3) lv st (sP w a (uF (wF w a) 3 (some b))) Q) : RR g RX7 cc nL ret "<init>" d kc ks rk rn pc lv (.ref (gb g + b) :: .ref (gb g + a) :: st) w Q :=
  jr_put (ci := 7) (k := 3) (C := RX7) (T := TX7) (N := 6) (ty := (.array .int)) (ty0 := tyX7) (w' := sP w a (uF (wF w a) 3 (some b))) flX7_21 huX7 rfl (by decide) (by decide) rfl tyX7_ok nmX7 (by decide +kernel) rfl rfl (Or.inr ⟨rfl, rfl, rfl⟩) hs (fun _ _ => Nat.le_of_ble_eq_true rfl) rfl (by rw [cE_obj (hs.sP _ _) (by decide), wF_sP_s, wI_sP]; rfl) (fun i hi => cE_sP_o hi) hd K
theorem flX7_24 : Cond.fieldLink RX7 24 RX7 (TX7 4).2.1 (TX7 4).2.2.1 ∈ kw := kw_in (List.mem_of_getElem? (i := 224) (by decide +kernel)) (by decide +kernel)
theorem gfX7_24 {g : Cx} {cc : ByteArray} {nL : Nat} {ret : Option FieldType} {nm : String} {d kc ks rk rn pc : Nat} {lv : List (Option Value)} {st : List Value} {w : Wd} {Q : Option Value → Wd → Prop} {a : Nat} (b : Nat) (hd : decode cc pc = .ok (.getfield 24, 3)) (hs : jK w a 7 0) (hF : wF w a 4 = some b) (K : RR g RX7 cc nL ret nm d kc ks rk rn (pc + 3) lv (.ref (gb g + b) :: st) w Q) : RR g RX7 cc nL ret nm d kc ks rk rn pc lv (.ref (gb g + a) :: st) w Q :=
  jr_get (ci := 7) (k := 4) (C := RX7) (T := TX7) (N := 6) flX7_24 huX7 rfl (by decide) (by decide) rfl hs (by show some (jrf g (wF w a 4)) = some (.ref (gb g + b)); rw [hF]; rfl) hd K
theorem pfX7_24 {g : Cx} {cc : ByteArray} {nL : Nat} {ret : Option FieldType} {d kc ks rk rn pc : Nat} {lv : List (Option Value)} {st : List Value} {w : Wd} {Q : Option Value → Wd → Prop} {a b : Nat} (hd : decode cc pc = .ok (.putfield 24, 3)) (hs : jK w a 7 0) (K : RR g RX7 cc nL ret "<init>" d kc ks rk rn (pc + 3) lv st (sP w a (uF (wF w a) 4 (some b))) Q) : RR g RX7 cc nL ret "<init>" d kc ks rk rn pc lv (.ref (gb g + b) :: .ref (gb g + a) :: st) w Q :=
  jr_put (ci := 7) (k := 4) (C := RX7) (T := TX7) (N := 6) (ty := (.array .int)) (ty0 := tyX7) (w' := sP w a (uF (wF w a) 4 (some b))) flX7_24 huX7 rfl (by decide) (by decide) rfl tyX7_ok nmX7 (by decide +kernel) rfl rfl (Or.inr ⟨rfl, rfl, rfl⟩) hs (fun _ _ => Nat.le_of_ble_eq_true rfl) rfl (by rw [cE_obj (hs.sP _ _) (by decide), wF_sP_s, wI_sP]; rfl) (fun i hi => cE_sP_o hi) hd K
theorem flX7_27 : Cond.fieldLink RX7 27 RX7 (TX7 5).2.1 (TX7 5).2.2.1 ∈ kw := kw_in (List.mem_of_getElem? (i := 225) (by decide +kernel)) (by decide +kernel)
theorem gfX7_27 {g : Cx} {cc : ByteArray} {nL : Nat} {ret : Option FieldType} {nm : String} {d kc ks rk rn pc : Nat} {lv : List (Option Value)} {st : List Value} {w : Wd} {Q : Option Value → Wd → Prop} {a : Nat} (hd : decode cc pc = .ok (.getfield 27, 3)) (hs : jK w a 7 0) (K : RR g RX7 cc nL ret nm d kc ks rk rn (pc + 3) lv (.int (wI w a 5) :: st) w Q) : RR g RX7 cc nL ret nm d kc ks rk rn pc lv (.ref (gb g + a) :: st) w Q :=
  jr_get (ci := 7) (k := 5) (C := RX7) (T := TX7) (N := 6) flX7_27 huX7 rfl (by decide) (by decide) rfl hs rfl hd K
theorem pfX7_27 {g : Cx} {cc : ByteArray} {nL : Nat} {ret : Option FieldType} {nm : String} {d kc ks rk rn pc : Nat} {lv : List (Option Value)} {st : List Value} {w : Wd} {Q : Option Value → Wd → Prop} {a : Nat} {x : Int32} (hd : decode cc pc = .ok (.putfield 27, 3)) (hs : jK w a 7 0) (K : RR g RX7 cc nL ret nm d kc ks rk rn (pc + 3) lv st (sR w a (upd (wI w a) 5 x)) Q) : RR g RX7 cc nL ret nm d kc ks rk rn pc lv (.int x :: .ref (gb g + a) :: st) w Q :=
  jr_put (ci := 7) (k := 5) (C := RX7) (T := TX7) (N := 6) (ty := .int) (ty0 := tyX7) (w' := sR w a (upd (wI w a) 5 x)) flX7_27 huX7 rfl (by decide) (by decide) rfl tyX7_ok nmX7 (by decide +kernel) rfl rfl (Or.inl rfl) hs (fun _ _ => Nat.le_of_ble_eq_true rfl) rfl (by rw [cE_obj (hs.sR _ _) (by decide), wI_sR_s]; rfl) (fun i hi => cE_sR_o hi) hd K
theorem lkX7_31 : JS RX7 31 yJ7_fill_53178 cJ7_fill_53178 4 none 2 := ⟨kw_in (List.mem_of_getElem? (i := 599) (by decide +kernel)) (by decide +kernel), kw_in (List.mem_of_getElem? (i := 540) (by decide +kernel)) (by decide +kernel), inRJ7, kcJ7_fill_53178, by decide +kernel, by decide⟩
theorem lkX7_37 : JV RX7 37 yX7_splitLeavesDoubt cX7_splitLeavesDoubt 6 (some .boolean) 7 2 := ⟨kw_in (List.mem_of_getElem? (i := 600) (by decide +kernel)) (by decide +kernel), kw_in (List.mem_of_getElem? (i := 602) (by decide +kernel)) (by decide +kernel), kw_in (List.mem_of_getElem? (i := 2) (by decide +kernel)) (by decide +kernel), inRX7, kcX7_splitLeavesDoubt, ⟨_, rfl, rfl, by decide⟩, by decide +kernel, by decide⟩
theorem ckX7_41 : Cond.constant RX7 41 (-1000000005) ∈ kw := kw_in (List.mem_of_getElem? (i := 610) (by decide +kernel)) (by decide +kernel)
theorem lkX7_42 : JS RX7 42 yJ9_floorMod_7cf53 cJ9_floorMod_7cf53 3 (some .int) 2 := ⟨kw_in (List.mem_of_getElem? (i := 604) (by decide +kernel)) (by decide +kernel), kw_in (List.mem_of_getElem? (i := 396) (by decide +kernel)) (by decide +kernel), inRJ9, kcJ9_floorMod_7cf53, by decide +kernel, by decide⟩
theorem lkX7_48 : JV RX7 48 yX7_partOf cX7_partOf 6 (some .int) 7 3 := ⟨kw_in (List.mem_of_getElem? (i := 605) (by decide +kernel)) (by decide +kernel), kw_in (List.mem_of_getElem? (i := 607) (by decide +kernel)) (by decide +kernel), kw_in (List.mem_of_getElem? (i := 3) (by decide +kernel)) (by decide +kernel), inRX7, kcX7_partOf, ⟨_, rfl, rfl, by decide⟩, by decide +kernel, by decide⟩
theorem lkX7_52 : JS RX7 52 yJ9_min_7cf53 cJ9_min_7cf53 2 (some .int) 2 := ⟨kw_in (List.mem_of_getElem? (i := 609) (by decide +kernel)) (by decide +kernel), kw_in (List.mem_of_getElem? (i := 426) (by decide +kernel)) (by decide +kernel), inRJ9, kcJ9_min_7cf53, by decide +kernel, by decide⟩
theorem lkX8_3 : Cond.methodLink RX8 3 objectInit ∈ kw := kw_in (List.mem_of_getElem? (i := 87) (by decide +kernel)) (by decide +kernel)
theorem clX8_9 : Cond.classLink RX8 9 RX2 ∈ kw := kw_in (List.mem_of_getElem? (i := 90) (by decide +kernel)) (by decide +kernel)
theorem nwX8_9 {g : Cx} {cc : ByteArray} {nL : Nat} {ret : Option FieldType} {nm : String} {d kc ks rk rn pc : Nat} {lv : List (Option Value)} {st : List Value} {w : Wd} {Q : Option Value → Wd → Prop} (hd : decode cc pc = .ok (.new 9, 3)) (hrk : 1 ≤ rk ∧ 14 ≤ rn) (K : RR g RX8 cc nL ret nm d kc ks (rk - 1) (rn - 14) (pc + 3) lv (.ref (gb g + wn w) :: st) (pN w 2 0) Q) : RR g RX8 cc nL ret nm d kc ks rk rn pc lv st w Q :=
  jr_new (ci := 2) (C := RX2) (T := TX2) (N := 14) (ty0 := tyX2) clX8_9 (instX2) inRX2 huX2 rfl (by decide) tyX2_ok (by decide +kernel) hrk hd K
theorem lkX8_11 : Cond.methodLink RX8 11 yX2_init ∈ kw ∧ Cond.instanceMethod yX2_init ∈ kw ∧ Cond.initialized yX2_init.cls ∈ kw ∧ Cond.code yX2_init cX2_init 2 none ∈ kw ∧ (yX2_init.cls ≠ "java/lang/invoke/MethodHandle" ∧ yX2_init.cls ≠ "java/lang/invoke/VarHandle" ∧ (parseMethodDescriptor yX2_init.desc).map (fun d => d.parameters.length) = some 0) ∧ 2 ≤ 21 ∧ yX2_init.name = "<init>" := ⟨kw_in (List.mem_of_getElem? (i := 92) (by decide +kernel)) (by decide +kernel), kw_in (List.mem_of_getElem? (i := 93) (by decide +kernel)) (by decide +kernel), inRX2, kcX2_init, by decide +kernel, by decide, rfl⟩
theorem flX8_12 : Cond.fieldLink RX8 12 RX8 (TX8 0).2.1 (TX8 0).2.2.1 ∈ kw := kw_in (List.mem_of_getElem? (i := 325) (by decide +kernel)) (by decide +kernel)
theorem gfX8_12 {g : Cx} {cc : ByteArray} {nL : Nat} {ret : Option FieldType} {nm : String} {d kc ks rk rn pc : Nat} {lv : List (Option Value)} {st : List Value} {w : Wd} {Q : Option Value → Wd → Prop} {a : Nat} (b : Nat) (hd : decode cc pc = .ok (.getfield 12, 3)) (hs : jK w a 8 0) (hF : wF w a 0 = some b) (K : RR g RX8 cc nL ret nm d kc ks rk rn (pc + 3) lv (.ref (gb g + b) :: st) w Q) : RR g RX8 cc nL ret nm d kc ks rk rn pc lv (.ref (gb g + a) :: st) w Q :=
  jr_get (ci := 8) (k := 0) (C := RX8) (T := TX8) (N := 13) flX8_12 huX8 rfl (by decide) (by decide) rfl hs (by show some (jrf g (wF w a 0)) = some (.ref (gb g + b)); rw [hF]; rfl) hd K
theorem pfX8_12 {g : Cx} {cc : ByteArray} {nL : Nat} {ret : Option FieldType} {d kc ks rk rn pc : Nat} {lv : List (Option Value)} {st : List Value} {w : Wd} {Q : Option Value → Wd → Prop} {a b : Nat} (hd : decode cc pc = .ok (.putfield 12, 3)) (hs : jK w a 8 0) (K : RR g RX8 cc nL ret "<init>" d kc ks rk rn (pc + 3) lv st (sP w a (uF (wF w a) 0 (some b))) Q) : RR g RX8 cc nL ret "<init>" d kc ks rk rn pc lv (.ref (gb g + b) :: .ref (gb g + a) :: st) w Q :=
  jr_put (ci := 8) (k := 0) (C := RX8) (T := TX8) (N := 13) (ty := (.object "StrokesHeard$Night")) (ty0 := tyX8) (w' := sP w a (uF (wF w a) 0 (some b))) flX8_12 huX8 rfl (by decide) (by decide) rfl tyX8_ok nmX8 (by decide +kernel) rfl rfl (Or.inr ⟨rfl, rfl, rfl⟩) hs (fun _ _ => Nat.le_of_ble_eq_true rfl) rfl (by rw [cE_obj (hs.sP _ _) (by decide), wF_sP_s, wI_sP]; rfl) (fun i hi => cE_sP_o hi) hd K
theorem flX8_16 : Cond.fieldLink RX8 16 RX8 (TX8 1).2.1 (TX8 1).2.2.1 ∈ kw := kw_in (List.mem_of_getElem? (i := 326) (by decide +kernel)) (by decide +kernel)
theorem gfX8_16 {g : Cx} {cc : ByteArray} {nL : Nat} {ret : Option FieldType} {nm : String} {d kc ks rk rn pc : Nat} {lv : List (Option Value)} {st : List Value} {w : Wd} {Q : Option Value → Wd → Prop} {a : Nat} (b : Nat) (hd : decode cc pc = .ok (.getfield 16, 3)) (hs : jK w a 8 0) (hF : wF w a 1 = some b) (K : RR g RX8 cc nL ret nm d kc ks rk rn (pc + 3) lv (.ref (gb g + b) :: st) w Q) : RR g RX8 cc nL ret nm d kc ks rk rn pc lv (.ref (gb g + a) :: st) w Q :=
  jr_get (ci := 8) (k := 1) (C := RX8) (T := TX8) (N := 13) flX8_16 huX8 rfl (by decide) (by decide) rfl hs (by show some (jrf g (wF w a 1)) = some (.ref (gb g + b)); rw [hF]; rfl) hd K
theorem pfX8_16 {g : Cx} {cc : ByteArray} {nL : Nat} {ret : Option FieldType} {d kc ks rk rn pc : Nat} {lv : List (Option Value)} {st : List Value} {w : Wd} {Q : Option Value → Wd → Prop} {a b : Nat} (hd : decode cc pc = .ok (.putfield 16, 3)) (hs : jK w a 8 0) (K : RR g RX8 cc nL ret "<init>" d kc ks rk rn (pc + 3) lv st (sP w a (uF (wF w a) 1 (some b))) Q) : RR g RX8 cc nL ret "<init>" d kc ks rk rn pc lv (.ref (gb g + b) :: .ref (gb g + a) :: st) w Q :=
  jr_put (ci := 8) (k := 1) (C := RX8) (T := TX8) (N := 13) (ty := (.object "StrokesHeard$Night")) (ty0 := tyX8) (w' := sP w a (uF (wF w a) 1 (some b))) flX8_16 huX8 rfl (by decide) (by decide) rfl tyX8_ok nmX8 (by decide +kernel) rfl rfl (Or.inr ⟨rfl, rfl, rfl⟩) hs (fun _ _ => Nat.le_of_ble_eq_true rfl) rfl (by rw [cE_obj (hs.sP _ _) (by decide), wF_sP_s, wI_sP]; rfl) (fun i hi => cE_sP_o hi) hd K
theorem flX8_19 : Cond.fieldLink RX8 19 RX8 (TX8 2).2.1 (TX8 2).2.2.1 ∈ kw := kw_in (List.mem_of_getElem? (i := 327) (by decide +kernel)) (by decide +kernel)
theorem gfX8_19 {g : Cx} {cc : ByteArray} {nL : Nat} {ret : Option FieldType} {nm : String} {d kc ks rk rn pc : Nat} {lv : List (Option Value)} {st : List Value} {w : Wd} {Q : Option Value → Wd → Prop} {a : Nat} (b : Nat) (hd : decode cc pc = .ok (.getfield 19, 3)) (hs : jK w a 8 0) (hF : wF w a 2 = some b) (K : RR g RX8 cc nL ret nm d kc ks rk rn (pc + 3) lv (.ref (gb g + b) :: st) w Q) : RR g RX8 cc nL ret nm d kc ks rk rn pc lv (.ref (gb g + a) :: st) w Q :=
  jr_get (ci := 8) (k := 2) (C := RX8) (T := TX8) (N := 13) flX8_19 huX8 rfl (by decide) (by decide) rfl hs (by show some (jrf g (wF w a 2)) = some (.ref (gb g + b)); rw [hF]; rfl) hd K
theorem pfX8_19 {g : Cx} {cc : ByteArray} {nL : Nat} {ret : Option FieldType} {d kc ks rk rn pc : Nat} {lv : List (Option Value)} {st : List Value} {w : Wd} {Q : Option Value → Wd → Prop} {a b : Nat} (hd : decode cc pc = .ok (.putfield 19, 3)) (hs : jK w a 8 0) (K : RR g RX8 cc nL ret "<init>" d kc ks rk rn (pc + 3) lv st (sP w a (uF (wF w a) 2 (some b))) Q) : RR g RX8 cc nL ret "<init>" d kc ks rk rn pc lv (.ref (gb g + b) :: .ref (gb g + a) :: st) w Q :=
  jr_put (ci := 8) (k := 2) (C := RX8) (T := TX8) (N := 13) (ty := (.object "StrokesHeard$Night")) (ty0 := tyX8) (w' := sP w a (uF (wF w a) 2 (some b))) flX8_19 huX8 rfl (by decide) (by decide) rfl tyX8_ok nmX8 (by decide +kernel) rfl rfl (Or.inr ⟨rfl, rfl, rfl⟩) hs (fun _ _ => Nat.le_of_ble_eq_true rfl) rfl (by rw [cE_obj (hs.sP _ _) (by decide), wF_sP_s, wI_sP]; rfl) (fun i hi => cE_sP_o hi) hd K
theorem flX8_22 : Cond.fieldLink RX8 22 RX8 (TX8 3).2.1 (TX8 3).2.2.1 ∈ kw := kw_in (List.mem_of_getElem? (i := 328) (by decide +kernel)) (by decide +kernel)
theorem gfX8_22 {g : Cx} {cc : ByteArray} {nL : Nat} {ret : Option FieldType} {nm : String} {d kc ks rk rn pc : Nat} {lv : List (Option Value)} {st : List Value} {w : Wd} {Q : Option Value → Wd → Prop} {a : Nat} (hd : decode cc pc = .ok (.getfield 22, 3)) (hs : jK w a 8 0) (K : RR g RX8 cc nL ret nm d kc ks rk rn (pc + 3) lv (.int (wI w a 3) :: st) w Q) : RR g RX8 cc nL ret nm d kc ks rk rn pc lv (.ref (gb g + a) :: st) w Q :=
  jr_get (ci := 8) (k := 3) (C := RX8) (T := TX8) (N := 13) flX8_22 huX8 rfl (by decide) (by decide) rfl hs rfl hd K
theorem pfX8_22 {g : Cx} {cc : ByteArray} {nL : Nat} {ret : Option FieldType} {nm : String} {d kc ks rk rn pc : Nat} {lv : List (Option Value)} {st : List Value} {w : Wd} {Q : Option Value → Wd → Prop} {a : Nat} {x : Int32} (hz : narrow .boolean (.int x) = .int x) (hf : fits .boolean (.int x) = true) (hd : decode cc pc = .ok (.putfield 22, 3)) (hs : jK w a 8 0) (K : RR g RX8 cc nL ret nm d kc ks rk rn (pc + 3) lv st (sR w a (upd (wI w a) 3 x)) Q) : RR g RX8 cc nL ret nm d kc ks rk rn pc lv (.int x :: .ref (gb g + a) :: st) w Q :=
  jr_put (ci := 8) (k := 3) (C := RX8) (T := TX8) (N := 13) (ty := .boolean) (ty0 := tyX8) (w' := sR w a (upd (wI w a) 3 x)) flX8_22 huX8 rfl (by decide) (by decide) rfl tyX8_ok nmX8 (by decide +kernel) hz hf (Or.inl rfl) hs (fun _ _ => Nat.le_of_ble_eq_true rfl) rfl (by rw [cE_obj (hs.sR _ _) (by decide), wI_sR_s]; rfl) (fun i hi => cE_sR_o hi) hd K
theorem clX8_26 : Cond.classLink RX8 26 RX1 ∈ kw := kw_in (List.mem_of_getElem? (i := 184) (by decide +kernel)) (by decide +kernel)
theorem nwX8_26 {g : Cx} {cc : ByteArray} {nL : Nat} {ret : Option FieldType} {nm : String} {d kc ks rk rn pc : Nat} {lv : List (Option Value)} {st : List Value} {w : Wd} {Q : Option Value → Wd → Prop} (hd : decode cc pc = .ok (.new 26, 3)) (hrk : 1 ≤ rk ∧ 6 ≤ rn) (K : RR g RX8 cc nL ret nm d kc ks (rk - 1) (rn - 6) (pc + 3) lv (.ref (gb g + wn w) :: st) (pN w 1 0) Q) : RR g RX8 cc nL ret nm d kc ks rk rn pc lv st w Q :=
  jr_new (ci := 1) (C := RX1) (T := TX1) (N := 6) (ty0 := tyX1) clX8_26 (instX1) inRX1 huX1 rfl (by decide) tyX1_ok (by decide +kernel) hrk hd K
theorem lkX8_28 : JN RX8 28 yX1_init cX1_init 1 none 0 ∧ Cond.instanceMethod yX1_init ∈ kw ∧ yX1_init.name = "<init>" := ⟨⟨⟨"StrokesHeard", by decide +kernel⟩, inRX1, kcX1_init, by decide +kernel, by decide⟩, kw_in (List.mem_of_getElem? (i := 187) (by decide +kernel)) (by decide +kernel), rfl⟩
theorem flX8_29 : Cond.fieldLink RX8 29 RX8 (TX8 4).2.1 (TX8 4).2.2.1 ∈ kw := kw_in (List.mem_of_getElem? (i := 329) (by decide +kernel)) (by decide +kernel)
theorem gfX8_29 {g : Cx} {cc : ByteArray} {nL : Nat} {ret : Option FieldType} {nm : String} {d kc ks rk rn pc : Nat} {lv : List (Option Value)} {st : List Value} {w : Wd} {Q : Option Value → Wd → Prop} {a : Nat} (b : Nat) (hd : decode cc pc = .ok (.getfield 29, 3)) (hs : jK w a 8 0) (hF : wF w a 4 = some b) (K : RR g RX8 cc nL ret nm d kc ks rk rn (pc + 3) lv (.ref (gb g + b) :: st) w Q) : RR g RX8 cc nL ret nm d kc ks rk rn pc lv (.ref (gb g + a) :: st) w Q :=
  jr_get (ci := 8) (k := 4) (C := RX8) (T := TX8) (N := 13) flX8_29 huX8 rfl (by decide) (by decide) rfl hs (by show some (jrf g (wF w a 4)) = some (.ref (gb g + b)); rw [hF]; rfl) hd K
theorem pfX8_29 {g : Cx} {cc : ByteArray} {nL : Nat} {ret : Option FieldType} {d kc ks rk rn pc : Nat} {lv : List (Option Value)} {st : List Value} {w : Wd} {Q : Option Value → Wd → Prop} {a b : Nat} (hd : decode cc pc = .ok (.putfield 29, 3)) (hs : jK w a 8 0) (K : RR g RX8 cc nL ret "<init>" d kc ks rk rn (pc + 3) lv st (sP w a (uF (wF w a) 4 (some b))) Q) : RR g RX8 cc nL ret "<init>" d kc ks rk rn pc lv (.ref (gb g + b) :: .ref (gb g + a) :: st) w Q :=
  jr_put (ci := 8) (k := 4) (C := RX8) (T := TX8) (N := 13) (ty := (.object "StrokesHeard$Guess")) (ty0 := tyX8) (w' := sP w a (uF (wF w a) 4 (some b))) flX8_29 huX8 rfl (by decide) (by decide) rfl tyX8_ok nmX8 (by decide +kernel) rfl rfl (Or.inr ⟨rfl, rfl, rfl⟩) hs (fun _ _ => Nat.le_of_ble_eq_true rfl) rfl (by rw [cE_obj (hs.sP _ _) (by decide), wF_sP_s, wI_sP]; rfl) (fun i hi => cE_sP_o hi) hd K
theorem clX8_33 : Cond.classLink RX8 33 RX7 ∈ kw := kw_in (List.mem_of_getElem? (i := 214) (by decide +kernel)) (by decide +kernel)
theorem nwX8_33 {g : Cx} {cc : ByteArray} {nL : Nat} {ret : Option FieldType} {nm : String} {d kc ks rk rn pc : Nat} {lv : List (Option Value)} {st : List Value} {w : Wd} {Q : Option Value → Wd → Prop} (hd : decode cc pc = .ok (.new 33, 3)) (hrk : 1 ≤ rk ∧ 6 ≤ rn) (K : RR g RX8 cc nL ret nm d kc ks (rk - 1) (rn - 6) (pc + 3) lv (.ref (gb g + wn w) :: st) (pN w 7 0) Q) : RR g RX8 cc nL ret nm d kc ks rk rn pc lv st w Q :=
  jr_new (ci := 7) (C := RX7) (T := TX7) (N := 6) (ty0 := tyX7) clX8_33 (instX7) inRX7 huX7 rfl (by decide) tyX7_ok (by decide +kernel) hrk hd K
theorem lkX8_35 : JN RX8 35 yX7_init cX7_init 1 none 0 ∧ Cond.instanceMethod yX7_init ∈ kw ∧ yX7_init.name = "<init>" := ⟨⟨⟨"StrokesHeard", by decide +kernel⟩, inRX7, kcX7_init, by decide +kernel, by decide⟩, kw_in (List.mem_of_getElem? (i := 217) (by decide +kernel)) (by decide +kernel), rfl⟩
theorem flX8_36 : Cond.fieldLink RX8 36 RX8 (TX8 5).2.1 (TX8 5).2.2.1 ∈ kw := kw_in (List.mem_of_getElem? (i := 330) (by decide +kernel)) (by decide +kernel)
theorem gfX8_36 {g : Cx} {cc : ByteArray} {nL : Nat} {ret : Option FieldType} {nm : String} {d kc ks rk rn pc : Nat} {lv : List (Option Value)} {st : List Value} {w : Wd} {Q : Option Value → Wd → Prop} {a : Nat} (b : Nat) (hd : decode cc pc = .ok (.getfield 36, 3)) (hs : jK w a 8 0) (hF : wF w a 5 = some b) (K : RR g RX8 cc nL ret nm d kc ks rk rn (pc + 3) lv (.ref (gb g + b) :: st) w Q) : RR g RX8 cc nL ret nm d kc ks rk rn pc lv (.ref (gb g + a) :: st) w Q :=
  jr_get (ci := 8) (k := 5) (C := RX8) (T := TX8) (N := 13) flX8_36 huX8 rfl (by decide) (by decide) rfl hs (by show some (jrf g (wF w a 5)) = some (.ref (gb g + b)); rw [hF]; rfl) hd K
theorem pfX8_36 {g : Cx} {cc : ByteArray} {nL : Nat} {ret : Option FieldType} {d kc ks rk rn pc : Nat} {lv : List (Option Value)} {st : List Value} {w : Wd} {Q : Option Value → Wd → Prop} {a b : Nat} (hd : decode cc pc = .ok (.putfield 36, 3)) (hs : jK w a 8 0) (K : RR g RX8 cc nL ret "<init>" d kc ks rk rn (pc + 3) lv st (sP w a (uF (wF w a) 5 (some b))) Q) : RR g RX8 cc nL ret "<init>" d kc ks rk rn pc lv (.ref (gb g + b) :: .ref (gb g + a) :: st) w Q :=
  jr_put (ci := 8) (k := 5) (C := RX8) (T := TX8) (N := 13) (ty := (.object "StrokesHeard$Windows")) (ty0 := tyX8) (w' := sP w a (uF (wF w a) 5 (some b))) flX8_36 huX8 rfl (by decide) (by decide) rfl tyX8_ok nmX8 (by decide +kernel) rfl rfl (Or.inr ⟨rfl, rfl, rfl⟩) hs (fun _ _ => Nat.le_of_ble_eq_true rfl) rfl (by rw [cE_obj (hs.sP _ _) (by decide), wF_sP_s, wI_sP]; rfl) (fun i hi => cE_sP_o hi) hd K
theorem clX8_40 : Cond.classLink RX8 40 RX6 ∈ kw := kw_in (List.mem_of_getElem? (i := 239) (by decide +kernel)) (by decide +kernel)
theorem nwX8_40 {g : Cx} {cc : ByteArray} {nL : Nat} {ret : Option FieldType} {nm : String} {d kc ks rk rn pc : Nat} {lv : List (Option Value)} {st : List Value} {w : Wd} {Q : Option Value → Wd → Prop} (hd : decode cc pc = .ok (.new 40, 3)) (hrk : 1 ≤ rk ∧ 9 ≤ rn) (K : RR g RX8 cc nL ret nm d kc ks (rk - 1) (rn - 9) (pc + 3) lv (.ref (gb g + wn w) :: st) (pN w 6 0) Q) : RR g RX8 cc nL ret nm d kc ks rk rn pc lv st w Q :=
  jr_new (ci := 6) (C := RX6) (T := TX6) (N := 9) (ty0 := tyX6) clX8_40 (instX6) inRX6 huX6 rfl (by decide) tyX6_ok (by decide +kernel) hrk hd K
theorem lkX8_42 : JN RX8 42 yX6_init cX6_init 1 none 0 ∧ Cond.instanceMethod yX6_init ∈ kw ∧ yX6_init.name = "<init>" := ⟨⟨⟨"StrokesHeard", by decide +kernel⟩, inRX6, kcX6_init, by decide +kernel, by decide⟩, kw_in (List.mem_of_getElem? (i := 242) (by decide +kernel)) (by decide +kernel), rfl⟩
theorem flX8_43 : Cond.fieldLink RX8 43 RX8 (TX8 6).2.1 (TX8 6).2.2.1 ∈ kw := kw_in (List.mem_of_getElem? (i := 331) (by decide +kernel)) (by decide +kernel)
theorem gfX8_43 {g : Cx} {cc : ByteArray} {nL : Nat} {ret : Option FieldType} {nm : String} {d kc ks rk rn pc : Nat} {lv : List (Option Value)} {st : List Value} {w : Wd} {Q : Option Value → Wd → Prop} {a : Nat} (b : Nat) (hd : decode cc pc = .ok (.getfield 43, 3)) (hs : jK w a 8 0) (hF : wF w a 6 = some b) (K : RR g RX8 cc nL ret nm d kc ks rk rn (pc + 3) lv (.ref (gb g + b) :: st) w Q) : RR g RX8 cc nL ret nm d kc ks rk rn pc lv (.ref (gb g + a) :: st) w Q :=
  jr_get (ci := 8) (k := 6) (C := RX8) (T := TX8) (N := 13) flX8_43 huX8 rfl (by decide) (by decide) rfl hs (by show some (jrf g (wF w a 6)) = some (.ref (gb g + b)); rw [hF]; rfl) hd K
theorem pfX8_43 {g : Cx} {cc : ByteArray} {nL : Nat} {ret : Option FieldType} {d kc ks rk rn pc : Nat} {lv : List (Option Value)} {st : List Value} {w : Wd} {Q : Option Value → Wd → Prop} {a b : Nat} (hd : decode cc pc = .ok (.putfield 43, 3)) (hs : jK w a 8 0) (K : RR g RX8 cc nL ret "<init>" d kc ks rk rn (pc + 3) lv st (sP w a (uF (wF w a) 6 (some b))) Q) : RR g RX8 cc nL ret "<init>" d kc ks rk rn pc lv (.ref (gb g + b) :: .ref (gb g + a) :: st) w Q :=
  jr_put (ci := 8) (k := 6) (C := RX8) (T := TX8) (N := 13) (ty := (.object "StrokesHeard$TextReader")) (ty0 := tyX8) (w' := sP w a (uF (wF w a) 6 (some b))) flX8_43 huX8 rfl (by decide) (by decide) rfl tyX8_ok nmX8 (by decide +kernel) rfl rfl (Or.inr ⟨rfl, rfl, rfl⟩) hs (fun _ _ => Nat.le_of_ble_eq_true rfl) rfl (by rw [cE_obj (hs.sP _ _) (by decide), wF_sP_s, wI_sP]; rfl) (fun i hi => cE_sP_o hi) hd K
theorem flX8_47 : Cond.fieldLink RX8 47 RX8 (TX8 7).2.1 (TX8 7).2.2.1 ∈ kw := kw_in (List.mem_of_getElem? (i := 332) (by decide +kernel)) (by decide +kernel)
theorem gfX8_47 {g : Cx} {cc : ByteArray} {nL : Nat} {ret : Option FieldType} {nm : String} {d kc ks rk rn pc : Nat} {lv : List (Option Value)} {st : List Value} {w : Wd} {Q : Option Value → Wd → Prop} {a : Nat} (b : Nat) (hd : decode cc pc = .ok (.getfield 47, 3)) (hs : jK w a 8 0) (hF : wF w a 7 = some b) (K : RR g RX8 cc nL ret nm d kc ks rk rn (pc + 3) lv (.ref (gb g + b) :: st) w Q) : RR g RX8 cc nL ret nm d kc ks rk rn pc lv (.ref (gb g + a) :: st) w Q :=
  jr_get (ci := 8) (k := 7) (C := RX8) (T := TX8) (N := 13) flX8_47 huX8 rfl (by decide) (by decide) rfl hs (by show some (jrf g (wF w a 7)) = some (.ref (gb g + b)); rw [hF]; rfl) hd K
theorem pfX8_47 {g : Cx} {cc : ByteArray} {nL : Nat} {ret : Option FieldType} {d kc ks rk rn pc : Nat} {lv : List (Option Value)} {st : List Value} {w : Wd} {Q : Option Value → Wd → Prop} {a b : Nat} (hd : decode cc pc = .ok (.putfield 47, 3)) (hs : jK w a 8 0) (K : RR g RX8 cc nL ret "<init>" d kc ks rk rn (pc + 3) lv st (sP w a (uF (wF w a) 7 (some b))) Q) : RR g RX8 cc nL ret "<init>" d kc ks rk rn pc lv (.ref (gb g + b) :: .ref (gb g + a) :: st) w Q :=
  jr_put (ci := 8) (k := 7) (C := RX8) (T := TX8) (N := 13) (ty := (.array .byte)) (ty0 := tyX8) (w' := sP w a (uF (wF w a) 7 (some b))) flX8_47 huX8 rfl (by decide) (by decide) rfl tyX8_ok nmX8 (by decide +kernel) rfl rfl (Or.inr ⟨rfl, rfl, rfl⟩) hs (fun _ _ => Nat.le_of_ble_eq_true rfl) rfl (by rw [cE_obj (hs.sP _ _) (by decide), wF_sP_s, wI_sP]; rfl) (fun i hi => cE_sP_o hi) hd K
theorem flX8_51 : Cond.fieldLink RX8 51 RX8 (TX8 8).2.1 (TX8 8).2.2.1 ∈ kw := kw_in (List.mem_of_getElem? (i := 333) (by decide +kernel)) (by decide +kernel)
theorem gfX8_51 {g : Cx} {cc : ByteArray} {nL : Nat} {ret : Option FieldType} {nm : String} {d kc ks rk rn pc : Nat} {lv : List (Option Value)} {st : List Value} {w : Wd} {Q : Option Value → Wd → Prop} {a : Nat} (hd : decode cc pc = .ok (.getfield 51, 3)) (hs : jK w a 8 0) (K : RR g RX8 cc nL ret nm d kc ks rk rn (pc + 3) lv (.int (wI w a 8) :: st) w Q) : RR g RX8 cc nL ret nm d kc ks rk rn pc lv (.ref (gb g + a) :: st) w Q :=
  jr_get (ci := 8) (k := 8) (C := RX8) (T := TX8) (N := 13) flX8_51 huX8 rfl (by decide) (by decide) rfl hs rfl hd K
theorem pfX8_51 {g : Cx} {cc : ByteArray} {nL : Nat} {ret : Option FieldType} {nm : String} {d kc ks rk rn pc : Nat} {lv : List (Option Value)} {st : List Value} {w : Wd} {Q : Option Value → Wd → Prop} {a : Nat} {x : Int32} (hd : decode cc pc = .ok (.putfield 51, 3)) (hs : jK w a 8 0) (K : RR g RX8 cc nL ret nm d kc ks rk rn (pc + 3) lv st (sR w a (upd (wI w a) 8 x)) Q) : RR g RX8 cc nL ret nm d kc ks rk rn pc lv (.int x :: .ref (gb g + a) :: st) w Q :=
  jr_put (ci := 8) (k := 8) (C := RX8) (T := TX8) (N := 13) (ty := .int) (ty0 := tyX8) (w' := sR w a (upd (wI w a) 8 x)) flX8_51 huX8 rfl (by decide) (by decide) rfl tyX8_ok nmX8 (by decide +kernel) rfl rfl (Or.inl rfl) hs (fun _ _ => Nat.le_of_ble_eq_true rfl) rfl (by rw [cE_obj (hs.sR _ _) (by decide), wI_sR_s]; rfl) (fun i hi => cE_sR_o hi) hd K
theorem flX8_55 : Cond.fieldLink RX8 55 RX8 (TX8 9).2.1 (TX8 9).2.2.1 ∈ kw := kw_in (List.mem_of_getElem? (i := 334) (by decide +kernel)) (by decide +kernel)
theorem gfX8_55 {g : Cx} {cc : ByteArray} {nL : Nat} {ret : Option FieldType} {nm : String} {d kc ks rk rn pc : Nat} {lv : List (Option Value)} {st : List Value} {w : Wd} {Q : Option Value → Wd → Prop} {a : Nat} (b : Nat) (hd : decode cc pc = .ok (.getfield 55, 3)) (hs : jK w a 8 0) (hF : wF w a 9 = some b) (K : RR g RX8 cc nL ret nm d kc ks rk rn (pc + 3) lv (.ref (gb g + b) :: st) w Q) : RR g RX8 cc nL ret nm d kc ks rk rn pc lv (.ref (gb g + a) :: st) w Q :=
  jr_get (ci := 8) (k := 9) (C := RX8) (T := TX8) (N := 13) flX8_55 huX8 rfl (by decide) (by decide) rfl hs (by show some (jrf g (wF w a 9)) = some (.ref (gb g + b)); rw [hF]; rfl) hd K
theorem pfX8_55 {g : Cx} {cc : ByteArray} {nL : Nat} {ret : Option FieldType} {d kc ks rk rn pc : Nat} {lv : List (Option Value)} {st : List Value} {w : Wd} {Q : Option Value → Wd → Prop} {a b : Nat} (hd : decode cc pc = .ok (.putfield 55, 3)) (hs : jK w a 8 0) (K : RR g RX8 cc nL ret "<init>" d kc ks rk rn (pc + 3) lv st (sP w a (uF (wF w a) 9 (some b))) Q) : RR g RX8 cc nL ret "<init>" d kc ks rk rn pc lv (.ref (gb g + b) :: .ref (gb g + a) :: st) w Q :=
  jr_put (ci := 8) (k := 9) (C := RX8) (T := TX8) (N := 13) (ty := (.array .int)) (ty0 := tyX8) (w' := sP w a (uF (wF w a) 9 (some b))) flX8_55 huX8 rfl (by decide) (by decide) rfl tyX8_ok nmX8 (by decide +kernel) rfl rfl (Or.inr ⟨rfl, rfl, rfl⟩) hs (fun _ _ => Nat.le_of_ble_eq_true rfl) rfl (by rw [cE_obj (hs.sP _ _) (by decide), wF_sP_s, wI_sP]; rfl) (fun i hi => cE_sP_o hi) hd K
theorem flX8_59 : Cond.fieldLink RX8 59 RX8 (TX8 10).2.1 (TX8 10).2.2.1 ∈ kw := kw_in (List.mem_of_getElem? (i := 335) (by decide +kernel)) (by decide +kernel)
theorem gfX8_59 {g : Cx} {cc : ByteArray} {nL : Nat} {ret : Option FieldType} {nm : String} {d kc ks rk rn pc : Nat} {lv : List (Option Value)} {st : List Value} {w : Wd} {Q : Option Value → Wd → Prop} {a : Nat} (hd : decode cc pc = .ok (.getfield 59, 3)) (hs : jK w a 8 0) (K : RR g RX8 cc nL ret nm d kc ks rk rn (pc + 3) lv (.int (wI w a 10) :: st) w Q) : RR g RX8 cc nL ret nm d kc ks rk rn pc lv (.ref (gb g + a) :: st) w Q :=
  jr_get (ci := 8) (k := 10) (C := RX8) (T := TX8) (N := 13) flX8_59 huX8 rfl (by decide) (by decide) rfl hs rfl hd K
theorem pfX8_59 {g : Cx} {cc : ByteArray} {nL : Nat} {ret : Option FieldType} {nm : String} {d kc ks rk rn pc : Nat} {lv : List (Option Value)} {st : List Value} {w : Wd} {Q : Option Value → Wd → Prop} {a : Nat} {x : Int32} (hd : decode cc pc = .ok (.putfield 59, 3)) (hs : jK w a 8 0) (K : RR g RX8 cc nL ret nm d kc ks rk rn (pc + 3) lv st (sR w a (upd (wI w a) 10 x)) Q) : RR g RX8 cc nL ret nm d kc ks rk rn pc lv (.int x :: .ref (gb g + a) :: st) w Q :=
  jr_put (ci := 8) (k := 10) (C := RX8) (T := TX8) (N := 13) (ty := .int) (ty0 := tyX8) (w' := sR w a (upd (wI w a) 10 x)) flX8_59 huX8 rfl (by decide) (by decide) rfl tyX8_ok nmX8 (by decide +kernel) rfl rfl (Or.inl rfl) hs (fun _ _ => Nat.le_of_ble_eq_true rfl) rfl (by rw [cE_obj (hs.sR _ _) (by decide), wI_sR_s]; rfl) (fun i hi => cE_sR_o hi) hd K
theorem clX8_62 : Cond.classLink RX8 62 RX3 ∈ kw := kw_in (List.mem_of_getElem? (i := 275) (by decide +kernel)) (by decide +kernel)
theorem nwX8_62 {g : Cx} {cc : ByteArray} {nL : Nat} {ret : Option FieldType} {nm : String} {d kc ks rk rn pc : Nat} {lv : List (Option Value)} {st : List Value} {w : Wd} {Q : Option Value → Wd → Prop} (hd : decode cc pc = .ok (.new 62, 3)) (hrk : 1 ≤ rk ∧ 3 ≤ rn) (K : RR g RX8 cc nL ret nm d kc ks (rk - 1) (rn - 3) (pc + 3) lv (.ref (gb g + wn w) :: st) (pN w 3 0) Q) : RR g RX8 cc nL ret nm d kc ks rk rn pc lv st w Q :=
  jr_new (ci := 3) (C := RX3) (T := TX3) (N := 3) (ty0 := tyX3) clX8_62 (instX3) inRX3 huX3 rfl (by decide) tyX3_ok (by decide +kernel) hrk hd K
theorem flX8_64 : Cond.fieldLink RX8 64 RX8 (TX8 11).2.1 (TX8 11).2.2.1 ∈ kw := kw_in (List.mem_of_getElem? (i := 336) (by decide +kernel)) (by decide +kernel)
theorem gfX8_64 {g : Cx} {cc : ByteArray} {nL : Nat} {ret : Option FieldType} {nm : String} {d kc ks rk rn pc : Nat} {lv : List (Option Value)} {st : List Value} {w : Wd} {Q : Option Value → Wd → Prop} {a : Nat} (b : Nat) (hd : decode cc pc = .ok (.getfield 64, 3)) (hs : jK w a 8 0) (hF : wF w a 11 = some b) (K : RR g RX8 cc nL ret nm d kc ks rk rn (pc + 3) lv (.ref (gb g + b) :: st) w Q) : RR g RX8 cc nL ret nm d kc ks rk rn pc lv (.ref (gb g + a) :: st) w Q :=
  jr_get (ci := 8) (k := 11) (C := RX8) (T := TX8) (N := 13) flX8_64 huX8 rfl (by decide) (by decide) rfl hs (by show some (jrf g (wF w a 11)) = some (.ref (gb g + b)); rw [hF]; rfl) hd K
theorem pfX8_64 {g : Cx} {cc : ByteArray} {nL : Nat} {ret : Option FieldType} {d kc ks rk rn pc : Nat} {lv : List (Option Value)} {st : List Value} {w : Wd} {Q : Option Value → Wd → Prop} {a b : Nat} (hd : decode cc pc = .ok (.putfield 64, 3)) (hs : jK w a 8 0) (K : RR g RX8 cc nL ret "<init>" d kc ks rk rn (pc + 3) lv st (sP w a (uF (wF w a) 11 (some b))) Q) : RR g RX8 cc nL ret "<init>" d kc ks rk rn pc lv (.ref (gb g + b) :: .ref (gb g + a) :: st) w Q :=
  jr_put (ci := 8) (k := 11) (C := RX8) (T := TX8) (N := 13) (ty := (.array (.object "StrokesHeard$Sheet"))) (ty0 := tyX8) (w' := sP w a (uF (wF w a) 11 (some b))) flX8_64 huX8 rfl (by decide) (by decide) rfl tyX8_ok nmX8 (by decide +kernel) rfl rfl (Or.inr ⟨rfl, rfl, rfl⟩) hs (fun _ _ => Nat.le_of_ble_eq_true rfl) rfl (by rw [cE_obj (hs.sP _ _) (by decide), wF_sP_s, wI_sP]; rfl) (fun i hi => cE_sP_o hi) hd K
theorem clX8_68 : Cond.classLink RX8 68 RX4 ∈ kw := kw_in (List.mem_of_getElem? (i := 277) (by decide +kernel)) (by decide +kernel)
theorem nwX8_68 {g : Cx} {cc : ByteArray} {nL : Nat} {ret : Option FieldType} {nm : String} {d kc ks rk rn pc : Nat} {lv : List (Option Value)} {st : List Value} {w : Wd} {Q : Option Value → Wd → Prop} (hd : decode cc pc = .ok (.new 68, 3)) (hrk : 1 ≤ rk ∧ 4 ≤ rn) (K : RR g RX8 cc nL ret nm d kc ks (rk - 1) (rn - 4) (pc + 3) lv (.ref (gb g + wn w) :: st) (pN w 4 0) Q) : RR g RX8 cc nL ret nm d kc ks rk rn pc lv st w Q :=
  jr_new (ci := 4) (C := RX4) (T := TX4) (N := 4) (ty0 := tyX4) clX8_68 (instX4) inRX4 huX4 rfl (by decide) tyX4_ok (by decide +kernel) hrk hd K
theorem flX8_70 : Cond.fieldLink RX8 70 RX8 (TX8 12).2.1 (TX8 12).2.2.1 ∈ kw := kw_in (List.mem_of_getElem? (i := 337) (by decide +kernel)) (by decide +kernel)
theorem gfX8_70 {g : Cx} {cc : ByteArray} {nL : Nat} {ret : Option FieldType} {nm : String} {d kc ks rk rn pc : Nat} {lv : List (Option Value)} {st : List Value} {w : Wd} {Q : Option Value → Wd → Prop} {a : Nat} (b : Nat) (hd : decode cc pc = .ok (.getfield 70, 3)) (hs : jK w a 8 0) (hF : wF w a 12 = some b) (K : RR g RX8 cc nL ret nm d kc ks rk rn (pc + 3) lv (.ref (gb g + b) :: st) w Q) : RR g RX8 cc nL ret nm d kc ks rk rn pc lv (.ref (gb g + a) :: st) w Q :=
  jr_get (ci := 8) (k := 12) (C := RX8) (T := TX8) (N := 13) flX8_70 huX8 rfl (by decide) (by decide) rfl hs (by show some (jrf g (wF w a 12)) = some (.ref (gb g + b)); rw [hF]; rfl) hd K
theorem pfX8_70 {g : Cx} {cc : ByteArray} {nL : Nat} {ret : Option FieldType} {d kc ks rk rn pc : Nat} {lv : List (Option Value)} {st : List Value} {w : Wd} {Q : Option Value → Wd → Prop} {a b : Nat} (hd : decode cc pc = .ok (.putfield 70, 3)) (hs : jK w a 8 0) (K : RR g RX8 cc nL ret "<init>" d kc ks rk rn (pc + 3) lv st (sP w a (uF (wF w a) 12 (some b))) Q) : RR g RX8 cc nL ret "<init>" d kc ks rk rn pc lv (.ref (gb g + b) :: .ref (gb g + a) :: st) w Q :=
  jr_put (ci := 8) (k := 12) (C := RX8) (T := TX8) (N := 13) (ty := (.array (.object "StrokesHeard$Slot"))) (ty0 := tyX8) (w' := sP w a (uF (wF w a) 12 (some b))) flX8_70 huX8 rfl (by decide) (by decide) rfl tyX8_ok nmX8 (by decide +kernel) rfl rfl (Or.inr ⟨rfl, rfl, rfl⟩) hs (fun _ _ => Nat.le_of_ble_eq_true rfl) rfl (by rw [cE_obj (hs.sP _ _) (by decide), wF_sP_s, wI_sP]; rfl) (fun i hi => cE_sP_o hi) hd K
theorem lkX8_74 : JN RX8 74 yX3_init cX3_init 1 none 0 ∧ Cond.instanceMethod yX3_init ∈ kw ∧ yX3_init.name = "<init>" := ⟨⟨⟨"StrokesHeard", by decide +kernel⟩, inRX3, kcX3_init, by decide +kernel, by decide⟩, kw_in (List.mem_of_getElem? (i := 281) (by decide +kernel)) (by decide +kernel), rfl⟩
theorem lkX8_75 : JN RX8 75 yX4_init cX4_init 1 none 0 ∧ Cond.instanceMethod yX4_init ∈ kw ∧ yX4_init.name = "<init>" := ⟨⟨⟨"StrokesHeard", by decide +kernel⟩, inRX4, kcX4_init, by decide +kernel, by decide⟩, kw_in (List.mem_of_getElem? (i := 301) (by decide +kernel)) (by decide +kernel), rfl⟩
theorem lkX8_76 : JS RX8 76 yX8_within cX8_within 2 (some .boolean) 2 := ⟨kw_in (List.mem_of_getElem? (i := 369) (by decide +kernel)) (by decide +kernel), kw_in (List.mem_of_getElem? (i := 370) (by decide +kernel)) (by decide +kernel), inRX8, kcX8_within, by decide +kernel, by decide⟩
theorem ckX8_80 : Cond.constant RX8 80 (-1000000001) ∈ kw := kw_in (List.mem_of_getElem? (i := 372) (by decide +kernel)) (by decide +kernel)
theorem flX8_81 : Cond.fieldLink RX8 81 RX2 (TX2 1).2.1 (TX2 1).2.2.1 ∈ kw := kw_in (List.mem_of_getElem? (i := 130) (by decide +kernel)) (by decide +kernel)
theorem gfX8_81 {g : Cx} {cc : ByteArray} {nL : Nat} {ret : Option FieldType} {nm : String} {d kc ks rk rn pc : Nat} {lv : List (Option Value)} {st : List Value} {w : Wd} {Q : Option Value → Wd → Prop} {a : Nat} (hd : decode cc pc = .ok (.getfield 81, 3)) (hs : jK w a 2 0) (K : RR g RX8 cc nL ret nm d kc ks rk rn (pc + 3) lv (.int (wI w a 1) :: st) w Q) : RR g RX8 cc nL ret nm d kc ks rk rn pc lv (.ref (gb g + a) :: st) w Q :=
  jr_get (ci := 2) (k := 1) (C := RX2) (T := TX2) (N := 14) flX8_81 huX2 rfl (by decide) (by decide) rfl hs rfl hd K
theorem ckX8_84 : Cond.constant RX8 84 (-1000000003) ∈ kw := kw_in (List.mem_of_getElem? (i := 373) (by decide +kernel)) (by decide +kernel)
theorem lkX8_85 : JV RX8 85 yX2_addClock cX2_addClock 5 none 2 3 := ⟨kw_in (List.mem_of_getElem? (i := 374) (by decide +kernel)) (by decide +kernel), kw_in (List.mem_of_getElem? (i := 375) (by decide +kernel)) (by decide +kernel), kw_in (List.mem_of_getElem? (i := 376) (by decide +kernel)) (by decide +kernel), inRX2, kcX2_addClock, ⟨_, rfl, rfl, by decide⟩, by decide +kernel, by decide⟩
theorem lkX8_89 : JV RX8 89 yX2_hasClock cX2_hasClock 2 (some .boolean) 2 1 := ⟨kw_in (List.mem_of_getElem? (i := 382) (by decide +kernel)) (by decide +kernel), kw_in (List.mem_of_getElem? (i := 383) (by decide +kernel)) (by decide +kernel), kw_in (List.mem_of_getElem? (i := 384) (by decide +kernel)) (by decide +kernel), inRX2, kcX2_hasClock, ⟨_, rfl, rfl, by decide⟩, by decide +kernel, by decide⟩
theorem flX8_93 : Cond.fieldLink RX8 93 RX2 (TX2 0).2.1 (TX2 0).2.2.1 ∈ kw := kw_in (List.mem_of_getElem? (i := 127) (by decide +kernel)) (by decide +kernel)
theorem gfX8_93 {g : Cx} {cc : ByteArray} {nL : Nat} {ret : Option FieldType} {nm : String} {d kc ks rk rn pc : Nat} {lv : List (Option Value)} {st : List Value} {w : Wd} {Q : Option Value → Wd → Prop} {a : Nat} (b : Nat) (hd : decode cc pc = .ok (.getfield 93, 3)) (hs : jK w a 2 0) (hF : wF w a 0 = some b) (K : RR g RX8 cc nL ret nm d kc ks rk rn (pc + 3) lv (.ref (gb g + b) :: st) w Q) : RR g RX8 cc nL ret nm d kc ks rk rn pc lv (.ref (gb g + a) :: st) w Q :=
  jr_get (ci := 2) (k := 0) (C := RX2) (T := TX2) (N := 14) flX8_93 huX2 rfl (by decide) (by decide) rfl hs (by show some (jrf g (wF w a 0)) = some (.ref (gb g + b)); rw [hF]; rfl) hd K
theorem flX8_97 : Cond.fieldLink RX8 97 RX0 (TX0 0).2.1 (TX0 0).2.2.1 ∈ kw := kw_in (List.mem_of_getElem? (i := 108) (by decide +kernel)) (by decide +kernel)
theorem gfX8_97 {g : Cx} {cc : ByteArray} {nL : Nat} {ret : Option FieldType} {nm : String} {d kc ks rk rn pc : Nat} {lv : List (Option Value)} {st : List Value} {w : Wd} {Q : Option Value → Wd → Prop} {a : Nat} (hd : decode cc pc = .ok (.getfield 97, 3)) (hs : jK w a 0 0) (K : RR g RX8 cc nL ret nm d kc ks rk rn (pc + 3) lv (.int (wI w a 0) :: st) w Q) : RR g RX8 cc nL ret nm d kc ks rk rn pc lv (.ref (gb g + a) :: st) w Q :=
  jr_get (ci := 0) (k := 0) (C := RX0) (T := TX0) (N := 3) flX8_97 huX0 rfl (by decide) (by decide) rfl hs rfl hd K
theorem pfX8_97 {g : Cx} {cc : ByteArray} {nL : Nat} {ret : Option FieldType} {nm : String} {d kc ks rk rn pc : Nat} {lv : List (Option Value)} {st : List Value} {w : Wd} {Q : Option Value → Wd → Prop} {a : Nat} {x : Int32} (hd : decode cc pc = .ok (.putfield 97, 3)) (hs : jK w a 0 0) (K : RR g RX8 cc nL ret nm d kc ks rk rn (pc + 3) lv st (sR w a (upd (wI w a) 0 x)) Q) : RR g RX8 cc nL ret nm d kc ks rk rn pc lv (.int x :: .ref (gb g + a) :: st) w Q :=
  jr_put (ci := 0) (k := 0) (C := RX0) (T := TX0) (N := 3) (ty := .int) (ty0 := tyX0) (w' := sR w a (upd (wI w a) 0 x)) flX8_97 huX0 rfl (by decide) (by decide) rfl tyX0_ok nmX0 (by decide +kernel) rfl rfl (Or.inl rfl) hs (fun _ _ => Nat.le_of_ble_eq_true rfl) rfl (by rw [cE_obj (hs.sR _ _) (by decide), wI_sR_s]; rfl) (fun i hi => cE_sR_o hi) hd K
theorem flX8_102 : Cond.fieldLink RX8 102 RX0 (TX0 1).2.1 (TX0 1).2.2.1 ∈ kw := kw_in (List.mem_of_getElem? (i := 112) (by decide +kernel)) (by decide +kernel)
theorem gfX8_102 {g : Cx} {cc : ByteArray} {nL : Nat} {ret : Option FieldType} {nm : String} {d kc ks rk rn pc : Nat} {lv : List (Option Value)} {st : List Value} {w : Wd} {Q : Option Value → Wd → Prop} {a : Nat} (hd : decode cc pc = .ok (.getfield 102, 3)) (hs : jK w a 0 0) (K : RR g RX8 cc nL ret nm d kc ks rk rn (pc + 3) lv (.int (wI w a 1) :: st) w Q) : RR g RX8 cc nL ret nm d kc ks rk rn pc lv (.ref (gb g + a) :: st) w Q :=
  jr_get (ci := 0) (k := 1) (C := RX0) (T := TX0) (N := 3) flX8_102 huX0 rfl (by decide) (by decide) rfl hs rfl hd K
theorem pfX8_102 {g : Cx} {cc : ByteArray} {nL : Nat} {ret : Option FieldType} {nm : String} {d kc ks rk rn pc : Nat} {lv : List (Option Value)} {st : List Value} {w : Wd} {Q : Option Value → Wd → Prop} {a : Nat} {x : Int32} (hd : decode cc pc = .ok (.putfield 102, 3)) (hs : jK w a 0 0) (K : RR g RX8 cc nL ret nm d kc ks rk rn (pc + 3) lv st (sR w a (upd (wI w a) 1 x)) Q) : RR g RX8 cc nL ret nm d kc ks rk rn pc lv (.int x :: .ref (gb g + a) :: st) w Q :=
  jr_put (ci := 0) (k := 1) (C := RX0) (T := TX0) (N := 3) (ty := .int) (ty0 := tyX0) (w' := sR w a (upd (wI w a) 1 x)) flX8_102 huX0 rfl (by decide) (by decide) rfl tyX0_ok nmX0 (by decide +kernel) rfl rfl (Or.inl rfl) hs (fun _ _ => Nat.le_of_ble_eq_true rfl) rfl (by rw [cE_obj (hs.sR _ _) (by decide), wI_sR_s]; rfl) (fun i hi => cE_sR_o hi) hd K
theorem flX8_105 : Cond.fieldLink RX8 105 RX0 (TX0 2).2.1 (TX0 2).2.2.1 ∈ kw := kw_in (List.mem_of_getElem? (i := 115) (by decide +kernel)) (by decide +kernel)
theorem gfX8_105 {g : Cx} {cc : ByteArray} {nL : Nat} {ret : Option FieldType} {nm : String} {d kc ks rk rn pc : Nat} {lv : List (Option Value)} {st : List Value} {w : Wd} {Q : Option Value → Wd → Prop} {a : Nat} (hd : decode cc pc = .ok (.getfield 105, 3)) (hs : jK w a 0 0) (K : RR g RX8 cc nL ret nm d kc ks rk rn (pc + 3) lv (.int (wI w a 2) :: st) w Q) : RR g RX8 cc nL ret nm d kc ks rk rn pc lv (.ref (gb g + a) :: st) w Q :=
  jr_get (ci := 0) (k := 2) (C := RX0) (T := TX0) (N := 3) flX8_105 huX0 rfl (by decide) (by decide) rfl hs rfl hd K
theorem pfX8_105 {g : Cx} {cc : ByteArray} {nL : Nat} {ret : Option FieldType} {nm : String} {d kc ks rk rn pc : Nat} {lv : List (Option Value)} {st : List Value} {w : Wd} {Q : Option Value → Wd → Prop} {a : Nat} {x : Int32} (hd : decode cc pc = .ok (.putfield 105, 3)) (hs : jK w a 0 0) (K : RR g RX8 cc nL ret nm d kc ks rk rn (pc + 3) lv st (sR w a (upd (wI w a) 2 x)) Q) : RR g RX8 cc nL ret nm d kc ks rk rn pc lv (.int x :: .ref (gb g + a) :: st) w Q :=
  jr_put (ci := 0) (k := 2) (C := RX0) (T := TX0) (N := 3) (ty := .int) (ty0 := tyX0) (w' := sR w a (upd (wI w a) 2 x)) flX8_105 huX0 rfl (by decide) (by decide) rfl tyX0_ok nmX0 (by decide +kernel) rfl rfl (Or.inl rfl) hs (fun _ _ => Nat.le_of_ble_eq_true rfl) rfl (by rw [cE_obj (hs.sR _ _) (by decide), wI_sR_s]; rfl) (fun i hi => cE_sR_o hi) hd K
theorem lkX8_108 : JV RX8 108 yX2_timeNow cX2_timeNow 1 (some .int) 2 0 := ⟨kw_in (List.mem_of_getElem? (i := 387) (by decide +kernel)) (by decide +kernel), kw_in (List.mem_of_getElem? (i := 388) (by decide +kernel)) (by decide +kernel), kw_in (List.mem_of_getElem? (i := 389) (by decide +kernel)) (by decide +kernel), inRX2, kcX2_timeNow, ⟨_, rfl, rfl, by decide⟩, by decide +kernel, by decide⟩
theorem lkX8_112 : JV RX8 112 yX2_strokesAt cX2_strokesAt 8 (some .int) 2 2 := ⟨kw_in (List.mem_of_getElem? (i := 391) (by decide +kernel)) (by decide +kernel), kw_in (List.mem_of_getElem? (i := 392) (by decide +kernel)) (by decide +kernel), kw_in (List.mem_of_getElem? (i := 393) (by decide +kernel)) (by decide +kernel), inRX2, kcX2_strokesAt, ⟨_, rfl, rfl, by decide⟩, by decide +kernel, by decide⟩
theorem lkX8_116 : JV RX8 116 yX2_strokesOfAllTimes cX2_strokesOfAllTimes 4 (some .int) 2 1 := ⟨kw_in (List.mem_of_getElem? (i := 437) (by decide +kernel)) (by decide +kernel), kw_in (List.mem_of_getElem? (i := 438) (by decide +kernel)) (by decide +kernel), kw_in (List.mem_of_getElem? (i := 439) (by decide +kernel)) (by decide +kernel), inRX2, kcX2_strokesOfAllTimes, ⟨_, rfl, rfl, by decide⟩, by decide +kernel, by decide⟩
theorem lkX8_120 : JV RX8 120 yX0_worth cX0_worth 1 (some .int) 0 0 := ⟨kw_in (List.mem_of_getElem? (i := 442) (by decide +kernel)) (by decide +kernel), kw_in (List.mem_of_getElem? (i := 443) (by decide +kernel)) (by decide +kernel), kw_in (List.mem_of_getElem? (i := 444) (by decide +kernel)) (by decide +kernel), inRX0, kcX0_worth, ⟨_, rfl, rfl, by decide⟩, by decide +kernel, by decide⟩
theorem lkX8_123 : JS RX8 123 yX8_isUnder cX8_isUnder 4 (some .boolean) 2 := ⟨kw_in (List.mem_of_getElem? (i := 450) (by decide +kernel)) (by decide +kernel), kw_in (List.mem_of_getElem? (i := 399) (by decide +kernel)) (by decide +kernel), inRX8, kcX8_isUnder, by decide +kernel, by decide⟩
theorem ckX8_126 : Cond.constant RX8 126 (-1000000012) ∈ kw := kw_in (List.mem_of_getElem? (i := 451) (by decide +kernel)) (by decide +kernel)
theorem lkX8_127 : JV RX8 127 yX2_totalAt cX2_totalAt 4 (some .int) 2 1 := ⟨kw_in (List.mem_of_getElem? (i := 468) (by decide +kernel)) (by decide +kernel), kw_in (List.mem_of_getElem? (i := 469) (by decide +kernel)) (by decide +kernel), kw_in (List.mem_of_getElem? (i := 470) (by decide +kernel)) (by decide +kernel), inRX2, kcX2_totalAt, ⟨_, rfl, rfl, by decide⟩, by decide +kernel, by decide⟩
theorem flX8_131 : Cond.fieldLink RX8 131 RX2 (TX2 2).2.1 (TX2 2).2.2.1 ∈ kw := kw_in (List.mem_of_getElem? (i := 132) (by decide +kernel)) (by decide +kernel)
theorem gfX8_131 {g : Cx} {cc : ByteArray} {nL : Nat} {ret : Option FieldType} {nm : String} {d kc ks rk rn pc : Nat} {lv : List (Option Value)} {st : List Value} {w : Wd} {Q : Option Value → Wd → Prop} {a : Nat} (hd : decode cc pc = .ok (.getfield 131, 3)) (hs : jK w a 2 0) (K : RR g RX8 cc nL ret nm d kc ks rk rn (pc + 3) lv (.int (wI w a 2) :: st) w Q) : RR g RX8 cc nL ret nm d kc ks rk rn pc lv (.ref (gb g + a) :: st) w Q :=
  jr_get (ci := 2) (k := 2) (C := RX2) (T := TX2) (N := 14) flX8_131 huX2 rfl (by decide) (by decide) rfl hs rfl hd K
theorem pfX8_131 {g : Cx} {cc : ByteArray} {nL : Nat} {ret : Option FieldType} {nm : String} {d kc ks rk rn pc : Nat} {lv : List (Option Value)} {st : List Value} {w : Wd} {Q : Option Value → Wd → Prop} {a : Nat} {x : Int32} (hd : decode cc pc = .ok (.putfield 131, 3)) (hs : jK w a 2 0) (K : RR g RX8 cc nL ret nm d kc ks rk rn (pc + 3) lv st (sR w a (upd (wI w a) 2 x)) Q) : RR g RX8 cc nL ret nm d kc ks rk rn pc lv (.int x :: .ref (gb g + a) :: st) w Q :=
  jr_put (ci := 2) (k := 2) (C := RX2) (T := TX2) (N := 14) (ty := .int) (ty0 := tyX2) (w' := sR w a (upd (wI w a) 2 x)) flX8_131 huX2 rfl (by decide) (by decide) rfl tyX2_ok nmX2 (by decide +kernel) rfl rfl (Or.inl rfl) hs (fun _ _ => Nat.le_of_ble_eq_true rfl) rfl (by rw [cE_obj (hs.sR _ _) (by decide), wI_sR_s]; rfl) (fun i hi => cE_sR_o hi) hd K
theorem flX8_134 : Cond.fieldLink RX8 134 RX2 (TX2 3).2.1 (TX2 3).2.2.1 ∈ kw := kw_in (List.mem_of_getElem? (i := 134) (by decide +kernel)) (by decide +kernel)
theorem gfX8_134 {g : Cx} {cc : ByteArray} {nL : Nat} {ret : Option FieldType} {nm : String} {d kc ks rk rn pc : Nat} {lv : List (Option Value)} {st : List Value} {w : Wd} {Q : Option Value → Wd → Prop} {a : Nat} (hd : decode cc pc = .ok (.getfield 134, 3)) (hs : jK w a 2 0) (K : RR g RX8 cc nL ret nm d kc ks rk rn (pc + 3) lv (.int (wI w a 3) :: st) w Q) : RR g RX8 cc nL ret nm d kc ks rk rn pc lv (.ref (gb g + a) :: st) w Q :=
  jr_get (ci := 2) (k := 3) (C := RX2) (T := TX2) (N := 14) flX8_134 huX2 rfl (by decide) (by decide) rfl hs rfl hd K
theorem pfX8_134 {g : Cx} {cc : ByteArray} {nL : Nat} {ret : Option FieldType} {nm : String} {d kc ks rk rn pc : Nat} {lv : List (Option Value)} {st : List Value} {w : Wd} {Q : Option Value → Wd → Prop} {a : Nat} {x : Int32} (hd : decode cc pc = .ok (.putfield 134, 3)) (hs : jK w a 2 0) (K : RR g RX8 cc nL ret nm d kc ks rk rn (pc + 3) lv st (sR w a (upd (wI w a) 3 x)) Q) : RR g RX8 cc nL ret nm d kc ks rk rn pc lv (.int x :: .ref (gb g + a) :: st) w Q :=
  jr_put (ci := 2) (k := 3) (C := RX2) (T := TX2) (N := 14) (ty := .int) (ty0 := tyX2) (w' := sR w a (upd (wI w a) 3 x)) flX8_134 huX2 rfl (by decide) (by decide) rfl tyX2_ok nmX2 (by decide +kernel) rfl rfl (Or.inl rfl) hs (fun _ _ => Nat.le_of_ble_eq_true rfl) rfl (by rw [cE_obj (hs.sR _ _) (by decide), wI_sR_s]; rfl) (fun i hi => cE_sR_o hi) hd K
theorem lkX8_137 : JS RX8 137 yJ9_min_7cf53 cJ9_min_7cf53 2 (some .int) 2 := ⟨kw_in (List.mem_of_getElem? (i := 425) (by decide +kernel)) (by decide +kernel), kw_in (List.mem_of_getElem? (i := 426) (by decide +kernel)) (by decide +kernel), inRJ9, kcJ9_min_7cf53, by decide +kernel, by decide⟩
theorem lkX8_143 : JV RX8 143 yX2_draw cX2_draw 1 (some .int) 2 0 := ⟨kw_in (List.mem_of_getElem? (i := 480) (by decide +kernel)) (by decide +kernel), kw_in (List.mem_of_getElem? (i := 481) (by decide +kernel)) (by decide +kernel), kw_in (List.mem_of_getElem? (i := 482) (by decide +kernel)) (by decide +kernel), inRX2, kcX2_draw, ⟨_, rfl, rfl, by decide⟩, by decide +kernel, by decide⟩
theorem flX8_146 : Cond.fieldLink RX8 146 RX2 (TX2 8).2.1 (TX2 8).2.2.1 ∈ kw := kw_in (List.mem_of_getElem? (i := 143) (by decide +kernel)) (by decide +kernel)
theorem gfX8_146 {g : Cx} {cc : ByteArray} {nL : Nat} {ret : Option FieldType} {nm : String} {d kc ks rk rn pc : Nat} {lv : List (Option Value)} {st : List Value} {w : Wd} {Q : Option Value → Wd → Prop} {a : Nat} (hd : decode cc pc = .ok (.getfield 146, 3)) (hs : jK w a 2 0) (K : RR g RX8 cc nL ret nm d kc ks rk rn (pc + 3) lv (.int (wI w a 8) :: st) w Q) : RR g RX8 cc nL ret nm d kc ks rk rn pc lv (.ref (gb g + a) :: st) w Q :=
  jr_get (ci := 2) (k := 8) (C := RX2) (T := TX2) (N := 14) flX8_146 huX2 rfl (by decide) (by decide) rfl hs rfl hd K
theorem pfX8_146 {g : Cx} {cc : ByteArray} {nL : Nat} {ret : Option FieldType} {nm : String} {d kc ks rk rn pc : Nat} {lv : List (Option Value)} {st : List Value} {w : Wd} {Q : Option Value → Wd → Prop} {a : Nat} {x : Int32} (hd : decode cc pc = .ok (.putfield 146, 3)) (hs : jK w a 2 0) (K : RR g RX8 cc nL ret nm d kc ks rk rn (pc + 3) lv st (sR w a (upd (wI w a) 8 x)) Q) : RR g RX8 cc nL ret nm d kc ks rk rn pc lv (.int x :: .ref (gb g + a) :: st) w Q :=
  jr_put (ci := 2) (k := 8) (C := RX2) (T := TX2) (N := 14) (ty := .int) (ty0 := tyX2) (w' := sR w a (upd (wI w a) 8 x)) flX8_146 huX2 rfl (by decide) (by decide) rfl tyX2_ok nmX2 (by decide +kernel) rfl rfl (Or.inl rfl) hs (fun _ _ => Nat.le_of_ble_eq_true rfl) rfl (by rw [cE_obj (hs.sR _ _) (by decide), wI_sR_s]; rfl) (fun i hi => cE_sR_o hi) hd K
theorem flX8_149 : Cond.fieldLink RX8 149 RX2 (TX2 4).2.1 (TX2 4).2.2.1 ∈ kw := kw_in (List.mem_of_getElem? (i := 136) (by decide +kernel)) (by decide +kernel)
theorem gfX8_149 {g : Cx} {cc : ByteArray} {nL : Nat} {ret : Option FieldType} {nm : String} {d kc ks rk rn pc : Nat} {lv : List (Option Value)} {st : List Value} {w : Wd} {Q : Option Value → Wd → Prop} {a : Nat} (hd : decode cc pc = .ok (.getfield 149, 3)) (hs : jK w a 2 0) (K : RR g RX8 cc nL ret nm d kc ks rk rn (pc + 3) lv (.int (wI w a 4) :: st) w Q) : RR g RX8 cc nL ret nm d kc ks rk rn pc lv (.ref (gb g + a) :: st) w Q :=
  jr_get (ci := 2) (k := 4) (C := RX2) (T := TX2) (N := 14) flX8_149 huX2 rfl (by decide) (by decide) rfl hs rfl hd K
theorem flX8_152 : Cond.fieldLink RX8 152 RX2 (TX2 7).2.1 (TX2 7).2.2.1 ∈ kw := kw_in (List.mem_of_getElem? (i := 141) (by decide +kernel)) (by decide +kernel)
theorem gfX8_152 {g : Cx} {cc : ByteArray} {nL : Nat} {ret : Option FieldType} {nm : String} {d kc ks rk rn pc : Nat} {lv : List (Option Value)} {st : List Value} {w : Wd} {Q : Option Value → Wd → Prop} {a : Nat} (hd : decode cc pc = .ok (.getfield 152, 3)) (hs : jK w a 2 0) (K : RR g RX8 cc nL ret nm d kc ks rk rn (pc + 3) lv (.int (wI w a 7) :: st) w Q) : RR g RX8 cc nL ret nm d kc ks rk rn pc lv (.ref (gb g + a) :: st) w Q :=
  jr_get (ci := 2) (k := 7) (C := RX2) (T := TX2) (N := 14) flX8_152 huX2 rfl (by decide) (by decide) rfl hs rfl hd K
theorem lkX8_155 : JV RX8 155 yX2_passMinutes cX2_passMinutes 3 none 2 1 := ⟨kw_in (List.mem_of_getElem? (i := 493) (by decide +kernel)) (by decide +kernel), kw_in (List.mem_of_getElem? (i := 494) (by decide +kernel)) (by decide +kernel), kw_in (List.mem_of_getElem? (i := 495) (by decide +kernel)) (by decide +kernel), inRX2, kcX2_passMinutes, ⟨_, rfl, rfl, by decide⟩, by decide +kernel, by decide⟩
theorem flX8_159 : Cond.fieldLink RX8 159 RX2 (TX2 10).2.1 (TX2 10).2.2.1 ∈ kw := kw_in (List.mem_of_getElem? (i := 149) (by decide +kernel)) (by decide +kernel)
theorem gfX8_159 {g : Cx} {cc : ByteArray} {nL : Nat} {ret : Option FieldType} {nm : String} {d kc ks rk rn pc : Nat} {lv : List (Option Value)} {st : List Value} {w : Wd} {Q : Option Value → Wd → Prop} {a : Nat} (hd : decode cc pc = .ok (.getfield 159, 3)) (hs : jK w a 2 0) (K : RR g RX8 cc nL ret nm d kc ks rk rn (pc + 3) lv (.int (wI w a 10) :: st) w Q) : RR g RX8 cc nL ret nm d kc ks rk rn pc lv (.ref (gb g + a) :: st) w Q :=
  jr_get (ci := 2) (k := 10) (C := RX2) (T := TX2) (N := 14) flX8_159 huX2 rfl (by decide) (by decide) rfl hs rfl hd K
theorem lkX8_162 : JV RX8 162 yX2_bedCount cX2_bedCount 2 (some .int) 2 1 := ⟨kw_in (List.mem_of_getElem? (i := 512) (by decide +kernel)) (by decide +kernel), kw_in (List.mem_of_getElem? (i := 513) (by decide +kernel)) (by decide +kernel), kw_in (List.mem_of_getElem? (i := 514) (by decide +kernel)) (by decide +kernel), inRX2, kcX2_bedCount, ⟨_, rfl, rfl, by decide⟩, by decide +kernel, by decide⟩
theorem flX8_165 : Cond.fieldLink RX8 165 RX2 (TX2 9).2.1 (TX2 9).2.2.1 ∈ kw := kw_in (List.mem_of_getElem? (i := 146) (by decide +kernel)) (by decide +kernel)
theorem gfX8_165 {g : Cx} {cc : ByteArray} {nL : Nat} {ret : Option FieldType} {nm : String} {d kc ks rk rn pc : Nat} {lv : List (Option Value)} {st : List Value} {w : Wd} {Q : Option Value → Wd → Prop} {a : Nat} (b : Nat) (hd : decode cc pc = .ok (.getfield 165, 3)) (hs : jK w a 2 0) (hF : wF w a 9 = some b) (K : RR g RX8 cc nL ret nm d kc ks rk rn (pc + 3) lv (.ref (gb g + b) :: st) w Q) : RR g RX8 cc nL ret nm d kc ks rk rn pc lv (.ref (gb g + a) :: st) w Q :=
  jr_get (ci := 2) (k := 9) (C := RX2) (T := TX2) (N := 14) flX8_165 huX2 rfl (by decide) (by decide) rfl hs (by show some (jrf g (wF w a 9)) = some (.ref (gb g + b)); rw [hF]; rfl) hd K
theorem ckX8_168 : Cond.constant RX8 168 (-1000000005) ∈ kw := kw_in (List.mem_of_getElem? (i := 521) (by decide +kernel)) (by decide +kernel)
theorem lkX8_169 : JS RX8 169 yJ9_floorMod_7cf53 cJ9_floorMod_7cf53 3 (some .int) 2 := ⟨kw_in (List.mem_of_getElem? (i := 526) (by decide +kernel)) (by decide +kernel), kw_in (List.mem_of_getElem? (i := 396) (by decide +kernel)) (by decide +kernel), inRJ9, kcJ9_floorMod_7cf53, by decide +kernel, by decide⟩
theorem lkX8_172 : JV RX8 172 yX2_allows cX2_allows 4 (some .boolean) 2 2 := ⟨kw_in (List.mem_of_getElem? (i := 527) (by decide +kernel)) (by decide +kernel), kw_in (List.mem_of_getElem? (i := 528) (by decide +kernel)) (by decide +kernel), kw_in (List.mem_of_getElem? (i := 529) (by decide +kernel)) (by decide +kernel), inRX2, kcX2_allows, ⟨_, rfl, rfl, by decide⟩, by decide +kernel, by decide⟩
theorem lkX8_175 : JV RX8 175 yX1_useClocks cX1_useClocks 4 none 1 1 := ⟨kw_in (List.mem_of_getElem? (i := 535) (by decide +kernel)) (by decide +kernel), kw_in (List.mem_of_getElem? (i := 536) (by decide +kernel)) (by decide +kernel), kw_in (List.mem_of_getElem? (i := 537) (by decide +kernel)) (by decide +kernel), inRX1, kcX1_useClocks, ⟨_, rfl, rfl, by decide⟩, by decide +kernel, by decide⟩
theorem lkX8_179 : JV RX8 179 yX1_useNotes cX1_useNotes 5 none 1 1 := ⟨kw_in (List.mem_of_getElem? (i := 554) (by decide +kernel)) (by decide +kernel), kw_in (List.mem_of_getElem? (i := 555) (by decide +kernel)) (by decide +kernel), kw_in (List.mem_of_getElem? (i := 556) (by decide +kernel)) (by decide +kernel), inRX1, kcX1_useNotes, ⟨_, rfl, rfl, by decide⟩, by decide +kernel, by decide⟩
theorem lkX8_182 : JV RX8 182 yX1_findTimes cX1_findTimes 5 none 1 0 := ⟨kw_in (List.mem_of_getElem? (i := 559) (by decide +kernel)) (by decide +kernel), kw_in (List.mem_of_getElem? (i := 560) (by decide +kernel)) (by decide +kernel), kw_in (List.mem_of_getElem? (i := 561) (by decide +kernel)) (by decide +kernel), inRX1, kcX1_findTimes, ⟨_, rfl, rfl, by decide⟩, by decide +kernel, by decide⟩
theorem flX8_185 : Cond.fieldLink RX8 185 RX1 (TX1 3).2.1 (TX1 3).2.2.1 ∈ kw := kw_in (List.mem_of_getElem? (i := 196) (by decide +kernel)) (by decide +kernel)
theorem gfX8_185 {g : Cx} {cc : ByteArray} {nL : Nat} {ret : Option FieldType} {nm : String} {d kc ks rk rn pc : Nat} {lv : List (Option Value)} {st : List Value} {w : Wd} {Q : Option Value → Wd → Prop} {a : Nat} (hd : decode cc pc = .ok (.getfield 185, 3)) (hs : jK w a 1 0) (K : RR g RX8 cc nL ret nm d kc ks rk rn (pc + 3) lv (.int (wI w a 3) :: st) w Q) : RR g RX8 cc nL ret nm d kc ks rk rn pc lv (.ref (gb g + a) :: st) w Q :=
  jr_get (ci := 1) (k := 3) (C := RX1) (T := TX1) (N := 6) flX8_185 huX1 rfl (by decide) (by decide) rfl hs rfl hd K
theorem flX8_188 : Cond.fieldLink RX8 188 RX1 (TX1 4).2.1 (TX1 4).2.2.1 ∈ kw := kw_in (List.mem_of_getElem? (i := 198) (by decide +kernel)) (by decide +kernel)
theorem gfX8_188 {g : Cx} {cc : ByteArray} {nL : Nat} {ret : Option FieldType} {nm : String} {d kc ks rk rn pc : Nat} {lv : List (Option Value)} {st : List Value} {w : Wd} {Q : Option Value → Wd → Prop} {a : Nat} (hd : decode cc pc = .ok (.getfield 188, 3)) (hs : jK w a 1 0) (K : RR g RX8 cc nL ret nm d kc ks rk rn (pc + 3) lv (.int (wI w a 4) :: st) w Q) : RR g RX8 cc nL ret nm d kc ks rk rn pc lv (.ref (gb g + a) :: st) w Q :=
  jr_get (ci := 1) (k := 4) (C := RX1) (T := TX1) (N := 6) flX8_188 huX1 rfl (by decide) (by decide) rfl hs rfl hd K
theorem flX8_191 : Cond.fieldLink RX8 191 RX1 (TX1 5).2.1 (TX1 5).2.2.1 ∈ kw := kw_in (List.mem_of_getElem? (i := 200) (by decide +kernel)) (by decide +kernel)
theorem gfX8_191 {g : Cx} {cc : ByteArray} {nL : Nat} {ret : Option FieldType} {nm : String} {d kc ks rk rn pc : Nat} {lv : List (Option Value)} {st : List Value} {w : Wd} {Q : Option Value → Wd → Prop} {a : Nat} (hd : decode cc pc = .ok (.getfield 191, 3)) (hs : jK w a 1 0) (K : RR g RX8 cc nL ret nm d kc ks rk rn (pc + 3) lv (.int (wI w a 5) :: st) w Q) : RR g RX8 cc nL ret nm d kc ks rk rn pc lv (.ref (gb g + a) :: st) w Q :=
  jr_get (ci := 1) (k := 5) (C := RX1) (T := TX1) (N := 6) flX8_191 huX1 rfl (by decide) (by decide) rfl hs rfl hd K
theorem lkX8_194 : JV RX8 194 yX1_isSure cX1_isSure 1 (some .boolean) 1 0 := ⟨kw_in (List.mem_of_getElem? (i := 564) (by decide +kernel)) (by decide +kernel), kw_in (List.mem_of_getElem? (i := 565) (by decide +kernel)) (by decide +kernel), kw_in (List.mem_of_getElem? (i := 566) (by decide +kernel)) (by decide +kernel), inRX1, kcX1_isSure, ⟨_, rfl, rfl, by decide⟩, by decide +kernel, by decide⟩
theorem lkX8_198 : JV RX8 198 yX1_addStrokes cX1_addStrokes 10 none 1 4 := ⟨kw_in (List.mem_of_getElem? (i := 586) (by decide +kernel)) (by decide +kernel), kw_in (List.mem_of_getElem? (i := 543) (by decide +kernel)) (by decide +kernel), kw_in (List.mem_of_getElem? (i := 544) (by decide +kernel)) (by decide +kernel), inRX1, kcX1_addStrokes, ⟨_, rfl, rfl, by decide⟩, by decide +kernel, by decide⟩
theorem flX8_202 : Cond.fieldLink RX8 202 RX1 (TX1 0).2.1 (TX1 0).2.2.1 ∈ kw := kw_in (List.mem_of_getElem? (i := 192) (by decide +kernel)) (by decide +kernel)
theorem gfX8_202 {g : Cx} {cc : ByteArray} {nL : Nat} {ret : Option FieldType} {nm : String} {d kc ks rk rn pc : Nat} {lv : List (Option Value)} {st : List Value} {w : Wd} {Q : Option Value → Wd → Prop} {a : Nat} (b : Nat) (hd : decode cc pc = .ok (.getfield 202, 3)) (hs : jK w a 1 0) (hF : wF w a 0 = some b) (K : RR g RX8 cc nL ret nm d kc ks rk rn (pc + 3) lv (.ref (gb g + b) :: st) w Q) : RR g RX8 cc nL ret nm d kc ks rk rn pc lv (.ref (gb g + a) :: st) w Q :=
  jr_get (ci := 1) (k := 0) (C := RX1) (T := TX1) (N := 6) flX8_202 huX1 rfl (by decide) (by decide) rfl hs (by show some (jrf g (wF w a 0)) = some (.ref (gb g + b)); rw [hF]; rfl) hd K
theorem lkX8_205 : JV RX8 205 yX7_shortest cX7_shortest 3 (some .int) 7 1 := ⟨kw_in (List.mem_of_getElem? (i := 595) (by decide +kernel)) (by decide +kernel), kw_in (List.mem_of_getElem? (i := 596) (by decide +kernel)) (by decide +kernel), kw_in (List.mem_of_getElem? (i := 597) (by decide +kernel)) (by decide +kernel), inRX7, kcX7_shortest, ⟨_, rfl, rfl, by decide⟩, by decide +kernel, by decide⟩
theorem flX8_209 : Cond.fieldLink RX8 209 RX3 (TX3 0).2.1 (TX3 0).2.2.1 ∈ kw := kw_in (List.mem_of_getElem? (i := 285) (by decide +kernel)) (by decide +kernel)
theorem gfX8_209 {g : Cx} {cc : ByteArray} {nL : Nat} {ret : Option FieldType} {nm : String} {d kc ks rk rn pc : Nat} {lv : List (Option Value)} {st : List Value} {w : Wd} {Q : Option Value → Wd → Prop} {a : Nat} (hd : decode cc pc = .ok (.getfield 209, 3)) (hs : jK w a 3 0) (K : RR g RX8 cc nL ret nm d kc ks rk rn (pc + 3) lv (.int (wI w a 0) :: st) w Q) : RR g RX8 cc nL ret nm d kc ks rk rn pc lv (.ref (gb g + a) :: st) w Q :=
  jr_get (ci := 3) (k := 0) (C := RX3) (T := TX3) (N := 3) flX8_209 huX3 rfl (by decide) (by decide) rfl hs rfl hd K
theorem ckX8_212 : Cond.constant RX8 212 (-1000000011) ∈ kw := kw_in (List.mem_of_getElem? (i := 615) (by decide +kernel)) (by decide +kernel)
theorem lkX8_213 : JV RX8 213 yX1_difference cX1_difference 5 (some .int) 1 2 := ⟨kw_in (List.mem_of_getElem? (i := 616) (by decide +kernel)) (by decide +kernel), kw_in (List.mem_of_getElem? (i := 617) (by decide +kernel)) (by decide +kernel), kw_in (List.mem_of_getElem? (i := 618) (by decide +kernel)) (by decide +kernel), inRX1, kcX1_difference, ⟨_, rfl, rfl, by decide⟩, by decide +kernel, by decide⟩
theorem lkX8_217 : JV RX8 217 yX2_take cX2_take 3 none 2 1 := ⟨kw_in (List.mem_of_getElem? (i := 633) (by decide +kernel)) (by decide +kernel), kw_in (List.mem_of_getElem? (i := 634) (by decide +kernel)) (by decide +kernel), kw_in (List.mem_of_getElem? (i := 635) (by decide +kernel)) (by decide +kernel), inRX2, kcX2_take, ⟨_, rfl, rfl, by decide⟩, by decide +kernel, by decide⟩
theorem lkX8_220 : JV RX8 220 yX2_law cX2_law 2 (some (.object "StrokesHeard$Text")) 2 1 := ⟨kw_in (List.mem_of_getElem? (i := 649) (by decide +kernel)) (by decide +kernel), kw_in (List.mem_of_getElem? (i := 408) (by decide +kernel)) (by decide +kernel), kw_in (List.mem_of_getElem? (i := 409) (by decide +kernel)) (by decide +kernel), inRX2, kcX2_law, ⟨_, rfl, rfl, by decide⟩, by decide +kernel, by decide⟩
theorem flX8_224 : Cond.fieldLink RX8 224 RX2 (TX2 5).2.1 (TX2 5).2.2.1 ∈ kw := kw_in (List.mem_of_getElem? (i := 138) (by decide +kernel)) (by decide +kernel)
theorem gfX8_224 {g : Cx} {cc : ByteArray} {nL : Nat} {ret : Option FieldType} {nm : String} {d kc ks rk rn pc : Nat} {lv : List (Option Value)} {st : List Value} {w : Wd} {Q : Option Value → Wd → Prop} {a : Nat} (hd : decode cc pc = .ok (.getfield 224, 3)) (hs : jK w a 2 0) (K : RR g RX8 cc nL ret nm d kc ks rk rn (pc + 3) lv (.int (wI w a 5) :: st) w Q) : RR g RX8 cc nL ret nm d kc ks rk rn pc lv (.ref (gb g + a) :: st) w Q :=
  jr_get (ci := 2) (k := 5) (C := RX2) (T := TX2) (N := 14) flX8_224 huX2 rfl (by decide) (by decide) rfl hs rfl hd K
theorem lkX8_227 : JV RX8 227 yX5_value cX5_value 7 (some .int) 5 3 := ⟨kw_in (List.mem_of_getElem? (i := 650) (by decide +kernel)) (by decide +kernel), kw_in (List.mem_of_getElem? (i := 416) (by decide +kernel)) (by decide +kernel), kw_in (List.mem_of_getElem? (i := 417) (by decide +kernel)) (by decide +kernel), inRX5, kcX5_value, ⟨_, rfl, rfl, by decide⟩, by decide +kernel, by decide⟩
theorem lkX8_233 : JV RX8 233 yX8_putBytes cX8_putBytes 3 none 8 1 := ⟨kw_in (List.mem_of_getElem? (i := 659) (by decide +kernel)) (by decide +kernel), kw_in (List.mem_of_getElem? (i := 661) (by decide +kernel)) (by decide +kernel), kw_in (List.mem_of_getElem? (i := 4) (by decide +kernel)) (by decide +kernel), inRX8, kcX8_putBytes, ⟨_, rfl, rfl, by decide⟩, by decide +kernel, by decide⟩
theorem lkX8_236 : JV RX8 236 yX6_readText cX6_readText 3 (some .boolean) 6 2 := ⟨kw_in (List.mem_of_getElem? (i := 671) (by decide +kernel)) (by decide +kernel), kw_in (List.mem_of_getElem? (i := 672) (by decide +kernel)) (by decide +kernel), kw_in (List.mem_of_getElem? (i := 673) (by decide +kernel)) (by decide +kernel), inRX6, kcX6_readText, ⟨_, rfl, rfl, by decide⟩, by decide +kernel, by decide⟩
theorem flX8_240 : Cond.fieldLink RX8 240 RX6 (TX6 3).2.1 (TX6 3).2.2.1 ∈ kw := kw_in (List.mem_of_getElem? (i := 249) (by decide +kernel)) (by decide +kernel)
theorem gfX8_240 {g : Cx} {cc : ByteArray} {nL : Nat} {ret : Option FieldType} {nm : String} {d kc ks rk rn pc : Nat} {lv : List (Option Value)} {st : List Value} {w : Wd} {Q : Option Value → Wd → Prop} {a : Nat} (hd : decode cc pc = .ok (.getfield 240, 3)) (hs : jK w a 6 0) (K : RR g RX8 cc nL ret nm d kc ks rk rn (pc + 3) lv (.int (wI w a 3) :: st) w Q) : RR g RX8 cc nL ret nm d kc ks rk rn pc lv (.ref (gb g + a) :: st) w Q :=
  jr_get (ci := 6) (k := 3) (C := RX6) (T := TX6) (N := 9) flX8_240 huX6 rfl (by decide) (by decide) rfl hs rfl hd K
theorem flX8_243 : Cond.fieldLink RX8 243 RX2 (TX2 12).2.1 (TX2 12).2.2.1 ∈ kw := kw_in (List.mem_of_getElem? (i := 152) (by decide +kernel)) (by decide +kernel)
theorem gfX8_243 {g : Cx} {cc : ByteArray} {nL : Nat} {ret : Option FieldType} {nm : String} {d kc ks rk rn pc : Nat} {lv : List (Option Value)} {st : List Value} {w : Wd} {Q : Option Value → Wd → Prop} {a : Nat} (hd : decode cc pc = .ok (.getfield 243, 3)) (hs : jK w a 2 0) (K : RR g RX8 cc nL ret nm d kc ks rk rn (pc + 3) lv (.int (wI w a 12) :: st) w Q) : RR g RX8 cc nL ret nm d kc ks rk rn pc lv (.ref (gb g + a) :: st) w Q :=
  jr_get (ci := 2) (k := 12) (C := RX2) (T := TX2) (N := 14) flX8_243 huX2 rfl (by decide) (by decide) rfl hs rfl hd K
theorem lkX8_246 : JV RX8 246 yX6_newText cX6_newText 1 (some (.object "StrokesHeard$Text")) 6 0 := ⟨kw_in (List.mem_of_getElem? (i := 850) (by decide +kernel)) (by decide +kernel), kw_in (List.mem_of_getElem? (i := 851) (by decide +kernel)) (by decide +kernel), kw_in (List.mem_of_getElem? (i := 852) (by decide +kernel)) (by decide +kernel), inRX6, kcX6_newText, ⟨_, rfl, rfl, by decide⟩, by decide +kernel, by decide⟩
theorem lkX8_250 : JV RX8 250 yX2_addText cX2_addText 2 none 2 1 := ⟨kw_in (List.mem_of_getElem? (i := 888) (by decide +kernel)) (by decide +kernel), kw_in (List.mem_of_getElem? (i := 889) (by decide +kernel)) (by decide +kernel), kw_in (List.mem_of_getElem? (i := 890) (by decide +kernel)) (by decide +kernel), inRX2, kcX2_addText, ⟨_, rfl, rfl, by decide⟩, by decide +kernel, by decide⟩
theorem lkX8_254 : JV RX8 254 yX2_textAt cX2_textAt 2 (some (.object "StrokesHeard$Text")) 2 1 := ⟨kw_in (List.mem_of_getElem? (i := 896) (by decide +kernel)) (by decide +kernel), kw_in (List.mem_of_getElem? (i := 412) (by decide +kernel)) (by decide +kernel), kw_in (List.mem_of_getElem? (i := 413) (by decide +kernel)) (by decide +kernel), inRX2, kcX2_textAt, ⟨_, rfl, rfl, by decide⟩, by decide +kernel, by decide⟩
theorem flX8_257 : Cond.fieldLink RX8 257 RX5 (TX5 0).2.1 (TX5 0).2.2.1 ∈ kw := kw_in (List.mem_of_getElem? (i := 874) (by decide +kernel)) (by decide +kernel)
theorem gfX8_257 {g : Cx} {cc : ByteArray} {nL : Nat} {ret : Option FieldType} {nm : String} {d kc ks rk rn pc : Nat} {lv : List (Option Value)} {st : List Value} {w : Wd} {Q : Option Value → Wd → Prop} {a : Nat} (hd : decode cc pc = .ok (.getfield 257, 3)) (hs : jK w a 5 0) (K : RR g RX8 cc nL ret nm d kc ks rk rn (pc + 3) lv (.int (wI w a 0) :: st) w Q) : RR g RX8 cc nL ret nm d kc ks rk rn pc lv (.ref (gb g + a) :: st) w Q :=
  jr_get (ci := 5) (k := 0) (C := RX5) (T := TX5) (N := 4) flX8_257 huX5 rfl (by decide) (by decide) rfl hs rfl hd K
theorem flX8_260 : Cond.fieldLink RX8 260 RX5 (TX5 1).2.1 (TX5 1).2.2.1 ∈ kw := kw_in (List.mem_of_getElem? (i := 876) (by decide +kernel)) (by decide +kernel)
theorem gfX8_260 {g : Cx} {cc : ByteArray} {nL : Nat} {ret : Option FieldType} {nm : String} {d kc ks rk rn pc : Nat} {lv : List (Option Value)} {st : List Value} {w : Wd} {Q : Option Value → Wd → Prop} {a : Nat} (hd : decode cc pc = .ok (.getfield 260, 3)) (hs : jK w a 5 0) (K : RR g RX8 cc nL ret nm d kc ks rk rn (pc + 3) lv (.int (wI w a 1) :: st) w Q) : RR g RX8 cc nL ret nm d kc ks rk rn pc lv (.ref (gb g + a) :: st) w Q :=
  jr_get (ci := 5) (k := 1) (C := RX5) (T := TX5) (N := 4) flX8_260 huX5 rfl (by decide) (by decide) rfl hs rfl hd K
theorem flX8_263 : Cond.fieldLink RX8 263 RX2 (TX2 13).2.1 (TX2 13).2.2.1 ∈ kw := kw_in (List.mem_of_getElem? (i := 154) (by decide +kernel)) (by decide +kernel)
theorem gfX8_263 {g : Cx} {cc : ByteArray} {nL : Nat} {ret : Option FieldType} {nm : String} {d kc ks rk rn pc : Nat} {lv : List (Option Value)} {st : List Value} {w : Wd} {Q : Option Value → Wd → Prop} {a : Nat} (b : Nat) (hd : decode cc pc = .ok (.getfield 263, 3)) (hs : jK w a 2 0) (hF : wF w a 13 = some b) (K : RR g RX8 cc nL ret nm d kc ks rk rn (pc + 3) lv (.ref (gb g + b) :: st) w Q) : RR g RX8 cc nL ret nm d kc ks rk rn pc lv (.ref (gb g + a) :: st) w Q :=
  jr_get (ci := 2) (k := 13) (C := RX2) (T := TX2) (N := 14) flX8_263 huX2 rfl (by decide) (by decide) rfl hs (by show some (jrf g (wF w a 13)) = some (.ref (gb g + b)); rw [hF]; rfl) hd K
theorem lkX8_266 : JV RX8 266 yX3_become cX3_become 3 none 3 2 := ⟨kw_in (List.mem_of_getElem? (i := 905) (by decide +kernel)) (by decide +kernel), kw_in (List.mem_of_getElem? (i := 906) (by decide +kernel)) (by decide +kernel), kw_in (List.mem_of_getElem? (i := 907) (by decide +kernel)) (by decide +kernel), inRX3, kcX3_become, ⟨_, rfl, rfl, by decide⟩, by decide +kernel, by decide⟩
theorem ckX8_270 : Cond.constant RX8 270 (-1000000014) ∈ kw := kw_in (List.mem_of_getElem? (i := 911) (by decide +kernel)) (by decide +kernel)
theorem flX8_271 : Cond.fieldLink RX8 271 RX3 (TX3 1).2.1 (TX3 1).2.2.1 ∈ kw := kw_in (List.mem_of_getElem? (i := 288) (by decide +kernel)) (by decide +kernel)
theorem gfX8_271 {g : Cx} {cc : ByteArray} {nL : Nat} {ret : Option FieldType} {nm : String} {d kc ks rk rn pc : Nat} {lv : List (Option Value)} {st : List Value} {w : Wd} {Q : Option Value → Wd → Prop} {a : Nat} (hd : decode cc pc = .ok (.getfield 271, 3)) (hs : jK w a 3 0) (K : RR g RX8 cc nL ret nm d kc ks rk rn (pc + 3) lv (.int (wI w a 1) :: st) w Q) : RR g RX8 cc nL ret nm d kc ks rk rn pc lv (.ref (gb g + a) :: st) w Q :=
  jr_get (ci := 3) (k := 1) (C := RX3) (T := TX3) (N := 3) flX8_271 huX3 rfl (by decide) (by decide) rfl hs rfl hd K
theorem ckX8_274 : Cond.constant RX8 274 (-1000000013) ∈ kw := kw_in (List.mem_of_getElem? (i := 916) (by decide +kernel)) (by decide +kernel)
theorem flX8_275 : Cond.fieldLink RX8 275 RX3 (TX3 2).2.1 (TX3 2).2.2.1 ∈ kw := kw_in (List.mem_of_getElem? (i := 291) (by decide +kernel)) (by decide +kernel)
theorem gfX8_275 {g : Cx} {cc : ByteArray} {nL : Nat} {ret : Option FieldType} {nm : String} {d kc ks rk rn pc : Nat} {lv : List (Option Value)} {st : List Value} {w : Wd} {Q : Option Value → Wd → Prop} {a : Nat} (b : Nat) (hd : decode cc pc = .ok (.getfield 275, 3)) (hs : jK w a 3 0) (hF : wF w a 2 = some b) (K : RR g RX8 cc nL ret nm d kc ks rk rn (pc + 3) lv (.ref (gb g + b) :: st) w Q) : RR g RX8 cc nL ret nm d kc ks rk rn pc lv (.ref (gb g + a) :: st) w Q :=
  jr_get (ci := 3) (k := 2) (C := RX3) (T := TX3) (N := 3) flX8_275 huX3 rfl (by decide) (by decide) rfl hs (by show some (jrf g (wF w a 2)) = some (.ref (gb g + b)); rw [hF]; rfl) hd K
theorem ckX8_278 : Cond.constant RX8 278 (-99999) ∈ kw := kw_in (List.mem_of_getElem? (i := 917) (by decide +kernel)) (by decide +kernel)
theorem ckX8_279 : Cond.constant RX8 279 (99999) ∈ kw := kw_in (List.mem_of_getElem? (i := 918) (by decide +kernel)) (by decide +kernel)
theorem lkX8_280 : JV RX8 280 yX3_isNumber cX3_isNumber 2 (some .boolean) 3 1 := ⟨kw_in (List.mem_of_getElem? (i := 923) (by decide +kernel)) (by decide +kernel), kw_in (List.mem_of_getElem? (i := 621) (by decide +kernel)) (by decide +kernel), kw_in (List.mem_of_getElem? (i := 622) (by decide +kernel)) (by decide +kernel), inRX3, kcX3_isNumber, ⟨_, rfl, rfl, by decide⟩, by decide +kernel, by decide⟩
theorem lkX8_283 : JS RX8 283 yX8_held cX8_held 3 (some .int) 3 := ⟨kw_in (List.mem_of_getElem? (i := 924) (by decide +kernel)) (by decide +kernel), kw_in (List.mem_of_getElem? (i := 423) (by decide +kernel)) (by decide +kernel), inRX8, kcX8_held, by decide +kernel, by decide⟩
theorem lkX8_286 : JV RX8 286 yX3_hasRun cX3_hasRun 3 (some .boolean) 3 2 := ⟨kw_in (List.mem_of_getElem? (i := 933) (by decide +kernel)) (by decide +kernel), kw_in (List.mem_of_getElem? (i := 934) (by decide +kernel)) (by decide +kernel), kw_in (List.mem_of_getElem? (i := 935) (by decide +kernel)) (by decide +kernel), inRX3, kcX3_hasRun, ⟨_, rfl, rfl, by decide⟩, by decide +kernel, by decide⟩
theorem lkX8_289 : Cond.methodLink RX8 289 arraycopyName ∈ kw := kw_in (List.mem_of_getElem? (i := 937) (by decide +kernel)) (by decide +kernel)
theorem flX8_295 : Cond.fieldLink RX8 295 RX4 (TX4 0).2.1 (TX4 0).2.2.1 ∈ kw := kw_in (List.mem_of_getElem? (i := 309) (by decide +kernel)) (by decide +kernel)
theorem gfX8_295 {g : Cx} {cc : ByteArray} {nL : Nat} {ret : Option FieldType} {nm : String} {d kc ks rk rn pc : Nat} {lv : List (Option Value)} {st : List Value} {w : Wd} {Q : Option Value → Wd → Prop} {a : Nat} (hd : decode cc pc = .ok (.getfield 295, 3)) (hs : jK w a 4 0) (K : RR g RX8 cc nL ret nm d kc ks rk rn (pc + 3) lv (.int (wI w a 0) :: st) w Q) : RR g RX8 cc nL ret nm d kc ks rk rn pc lv (.ref (gb g + a) :: st) w Q :=
  jr_get (ci := 4) (k := 0) (C := RX4) (T := TX4) (N := 4) flX8_295 huX4 rfl (by decide) (by decide) rfl hs rfl hd K
theorem pfX8_295 {g : Cx} {cc : ByteArray} {nL : Nat} {ret : Option FieldType} {nm : String} {d kc ks rk rn pc : Nat} {lv : List (Option Value)} {st : List Value} {w : Wd} {Q : Option Value → Wd → Prop} {a : Nat} {x : Int32} (hd : decode cc pc = .ok (.putfield 295, 3)) (hs : jK w a 4 0) (K : RR g RX8 cc nL ret nm d kc ks rk rn (pc + 3) lv st (sR w a (upd (wI w a) 0 x)) Q) : RR g RX8 cc nL ret nm d kc ks rk rn pc lv (.int x :: .ref (gb g + a) :: st) w Q :=
  jr_put (ci := 4) (k := 0) (C := RX4) (T := TX4) (N := 4) (ty := .int) (ty0 := tyX4) (w' := sR w a (upd (wI w a) 0 x)) flX8_295 huX4 rfl (by decide) (by decide) rfl tyX4_ok nmX4 (by decide +kernel) rfl rfl (Or.inl rfl) hs (fun _ _ => Nat.le_of_ble_eq_true rfl) rfl (by rw [cE_obj (hs.sR _ _) (by decide), wI_sR_s]; rfl) (fun i hi => cE_sR_o hi) hd K
theorem flX8_298 : Cond.fieldLink RX8 298 RX4 (TX4 1).2.1 (TX4 1).2.2.1 ∈ kw := kw_in (List.mem_of_getElem? (i := 311) (by decide +kernel)) (by decide +kernel)
theorem gfX8_298 {g : Cx} {cc : ByteArray} {nL : Nat} {ret : Option FieldType} {nm : String} {d kc ks rk rn pc : Nat} {lv : List (Option Value)} {st : List Value} {w : Wd} {Q : Option Value → Wd → Prop} {a : Nat} (b : Nat) (hd : decode cc pc = .ok (.getfield 298, 3)) (hs : jK w a 4 0) (hF : wF w a 1 = some b) (K : RR g RX8 cc nL ret nm d kc ks rk rn (pc + 3) lv (.ref (gb g + b) :: st) w Q) : RR g RX8 cc nL ret nm d kc ks rk rn pc lv (.ref (gb g + a) :: st) w Q :=
  jr_get (ci := 4) (k := 1) (C := RX4) (T := TX4) (N := 4) flX8_298 huX4 rfl (by decide) (by decide) rfl hs (by show some (jrf g (wF w a 1)) = some (.ref (gb g + b)); rw [hF]; rfl) hd K
theorem lkX8_302 : JV RX8 302 yX0_take cX0_take 2 none 0 1 := ⟨kw_in (List.mem_of_getElem? (i := 942) (by decide +kernel)) (by decide +kernel), kw_in (List.mem_of_getElem? (i := 638) (by decide +kernel)) (by decide +kernel), kw_in (List.mem_of_getElem? (i := 639) (by decide +kernel)) (by decide +kernel), inRX0, kcX0_take, ⟨_, rfl, rfl, by decide⟩, by decide +kernel, by decide⟩
theorem flX8_305 : Cond.fieldLink RX8 305 RX4 (TX4 2).2.1 (TX4 2).2.2.1 ∈ kw := kw_in (List.mem_of_getElem? (i := 313) (by decide +kernel)) (by decide +kernel)
theorem gfX8_305 {g : Cx} {cc : ByteArray} {nL : Nat} {ret : Option FieldType} {nm : String} {d kc ks rk rn pc : Nat} {lv : List (Option Value)} {st : List Value} {w : Wd} {Q : Option Value → Wd → Prop} {a : Nat} (b : Nat) (hd : decode cc pc = .ok (.getfield 305, 3)) (hs : jK w a 4 0) (hF : wF w a 2 = some b) (K : RR g RX8 cc nL ret nm d kc ks rk rn (pc + 3) lv (.ref (gb g + b) :: st) w Q) : RR g RX8 cc nL ret nm d kc ks rk rn pc lv (.ref (gb g + a) :: st) w Q :=
  jr_get (ci := 4) (k := 2) (C := RX4) (T := TX4) (N := 4) flX8_305 huX4 rfl (by decide) (by decide) rfl hs (by show some (jrf g (wF w a 2)) = some (.ref (gb g + b)); rw [hF]; rfl) hd K
theorem lkX8_309 : JV RX8 309 yX3_take cX3_take 2 none 3 1 := ⟨kw_in (List.mem_of_getElem? (i := 943) (by decide +kernel)) (by decide +kernel), kw_in (List.mem_of_getElem? (i := 944) (by decide +kernel)) (by decide +kernel), kw_in (List.mem_of_getElem? (i := 945) (by decide +kernel)) (by decide +kernel), inRX3, kcX3_take, ⟨_, rfl, rfl, by decide⟩, by decide +kernel, by decide⟩
theorem flX8_312 : Cond.fieldLink RX8 312 RX4 (TX4 3).2.1 (TX4 3).2.2.1 ∈ kw := kw_in (List.mem_of_getElem? (i := 315) (by decide +kernel)) (by decide +kernel)
theorem gfX8_312 {g : Cx} {cc : ByteArray} {nL : Nat} {ret : Option FieldType} {nm : String} {d kc ks rk rn pc : Nat} {lv : List (Option Value)} {st : List Value} {w : Wd} {Q : Option Value → Wd → Prop} {a : Nat} (hd : decode cc pc = .ok (.getfield 312, 3)) (hs : jK w a 4 0) (K : RR g RX8 cc nL ret nm d kc ks rk rn (pc + 3) lv (.int (wI w a 3) :: st) w Q) : RR g RX8 cc nL ret nm d kc ks rk rn pc lv (.ref (gb g + a) :: st) w Q :=
  jr_get (ci := 4) (k := 3) (C := RX4) (T := TX4) (N := 4) flX8_312 huX4 rfl (by decide) (by decide) rfl hs rfl hd K
theorem pfX8_312 {g : Cx} {cc : ByteArray} {nL : Nat} {ret : Option FieldType} {nm : String} {d kc ks rk rn pc : Nat} {lv : List (Option Value)} {st : List Value} {w : Wd} {Q : Option Value → Wd → Prop} {a : Nat} {x : Int32} (hd : decode cc pc = .ok (.putfield 312, 3)) (hs : jK w a 4 0) (K : RR g RX8 cc nL ret nm d kc ks rk rn (pc + 3) lv st (sR w a (upd (wI w a) 3 x)) Q) : RR g RX8 cc nL ret nm d kc ks rk rn pc lv (.int x :: .ref (gb g + a) :: st) w Q :=
  jr_put (ci := 4) (k := 3) (C := RX4) (T := TX4) (N := 4) (ty := .int) (ty0 := tyX4) (w' := sR w a (upd (wI w a) 3 x)) flX8_312 huX4 rfl (by decide) (by decide) rfl tyX4_ok nmX4 (by decide +kernel) rfl rfl (Or.inl rfl) hs (fun _ _ => Nat.le_of_ble_eq_true rfl) rfl (by rw [cE_obj (hs.sR _ _) (by decide), wI_sR_s]; rfl) (fun i hi => cE_sR_o hi) hd K
theorem ckX8_315 : Cond.constant RX8 315 (-1000000002) ∈ kw := kw_in (List.mem_of_getElem? (i := 960) (by decide +kernel)) (by decide +kernel)
theorem lkX8_316 : JS RX8 316 yJ9_max_7cf53 cJ9_max_7cf53 2 (some .int) 2 := ⟨kw_in (List.mem_of_getElem? (i := 428) (by decide +kernel)) (by decide +kernel), kw_in (List.mem_of_getElem? (i := 429) (by decide +kernel)) (by decide +kernel), inRJ9, kcJ9_max_7cf53, by decide +kernel, by decide⟩
theorem flX8_319 : Cond.fieldLink RX8 319 "StrokesHeard" "ABOVE" "[I" ∈ kw := kw_in (List.mem_of_getElem? (i := 401) (by decide +kernel)) (by decide +kernel)
theorem lkX8_322 : JS RX8 322 yX8_fullStrokes cX8_fullStrokes 2 (some .int) 2 := ⟨kw_in (List.mem_of_getElem? (i := 434) (by decide +kernel)) (by decide +kernel), kw_in (List.mem_of_getElem? (i := 435) (by decide +kernel)) (by decide +kernel), inRX8, kcX8_fullStrokes, by decide +kernel, by decide⟩
theorem lkX9_1 : Cond.methodLink RX9 1 objectInit ∈ kw := kw_in (List.mem_of_getElem? (i := 986) (by decide +kernel)) (by decide +kernel)
theorem flX9_7 : Cond.fieldLink RX9 7 RX9 (TX9 0).2.1 (TX9 0).2.2.1 ∈ kw := kw_in (List.mem_of_getElem? (i := 987) (by decide +kernel)) (by decide +kernel)
theorem gfX9_7 {g : Cx} {cc : ByteArray} {nL : Nat} {ret : Option FieldType} {nm : String} {d kc ks rk rn pc : Nat} {lv : List (Option Value)} {st : List Value} {w : Wd} {Q : Option Value → Wd → Prop} {a : Nat} (b : Nat) (hd : decode cc pc = .ok (.getfield 7, 3)) (hs : jK w a 9 0) (hF : wF w a 0 = some b) (K : RR g RX9 cc nL ret nm d kc ks rk rn (pc + 3) lv (.ref (gb g + b) :: st) w Q) : RR g RX9 cc nL ret nm d kc ks rk rn pc lv (.ref (gb g + a) :: st) w Q :=
  jr_get (ci := 9) (k := 0) (C := RX9) (T := TX9) (N := 32) flX9_7 huX9 rfl (by decide) (by decide) rfl hs (by show some (jrf g (wF w a 0)) = some (.ref (gb g + b)); rw [hF]; rfl) hd K
theorem pfX9_7 {g : Cx} {cc : ByteArray} {nL : Nat} {ret : Option FieldType} {d kc ks rk rn pc : Nat} {lv : List (Option Value)} {st : List Value} {w : Wd} {Q : Option Value → Wd → Prop} {a b : Nat} (hd : decode cc pc = .ok (.putfield 7, 3)) (hs : jK w a 9 0) (K : RR g RX9 cc nL ret "<init>" d kc ks rk rn (pc + 3) lv st (sP w a (uF (wF w a) 0 (some b))) Q) : RR g RX9 cc nL ret "<init>" d kc ks rk rn pc lv (.ref (gb g + b) :: .ref (gb g + a) :: st) w Q :=
  jr_put (ci := 9) (k := 0) (C := RX9) (T := TX9) (N := 32) (ty := (.array .int)) (ty0 := tyX9) (w' := sP w a (uF (wF w a) 0 (some b))) flX9_7 huX9 rfl (by decide) (by decide) rfl tyX9_ok nmX9 (by decide +kernel) rfl rfl (Or.inr ⟨rfl, rfl, rfl⟩) hs (fun _ _ => Nat.le_of_ble_eq_true rfl) rfl (by rw [cE_obj (hs.sP _ _) (by decide), wF_sP_s, wI_sP]; rfl) (fun i hi => cE_sP_o hi) hd K
theorem flX9_13 : Cond.fieldLink RX9 13 RX9 (TX9 1).2.1 (TX9 1).2.2.1 ∈ kw := kw_in (List.mem_of_getElem? (i := 988) (by decide +kernel)) (by decide +kernel)
theorem gfX9_13 {g : Cx} {cc : ByteArray} {nL : Nat} {ret : Option FieldType} {nm : String} {d kc ks rk rn pc : Nat} {lv : List (Option Value)} {st : List Value} {w : Wd} {Q : Option Value → Wd → Prop} {a : Nat} (b : Nat) (hd : decode cc pc = .ok (.getfield 13, 3)) (hs : jK w a 9 0) (hF : wF w a 1 = some b) (K : RR g RX9 cc nL ret nm d kc ks rk rn (pc + 3) lv (.ref (gb g + b) :: st) w Q) : RR g RX9 cc nL ret nm d kc ks rk rn pc lv (.ref (gb g + a) :: st) w Q :=
  jr_get (ci := 9) (k := 1) (C := RX9) (T := TX9) (N := 32) flX9_13 huX9 rfl (by decide) (by decide) rfl hs (by show some (jrf g (wF w a 1)) = some (.ref (gb g + b)); rw [hF]; rfl) hd K
theorem pfX9_13 {g : Cx} {cc : ByteArray} {nL : Nat} {ret : Option FieldType} {d kc ks rk rn pc : Nat} {lv : List (Option Value)} {st : List Value} {w : Wd} {Q : Option Value → Wd → Prop} {a b : Nat} (hd : decode cc pc = .ok (.putfield 13, 3)) (hs : jK w a 9 0) (K : RR g RX9 cc nL ret "<init>" d kc ks rk rn (pc + 3) lv st (sP w a (uF (wF w a) 1 (some b))) Q) : RR g RX9 cc nL ret "<init>" d kc ks rk rn pc lv (.ref (gb g + b) :: .ref (gb g + a) :: st) w Q :=
  jr_put (ci := 9) (k := 1) (C := RX9) (T := TX9) (N := 32) (ty := (.array .int)) (ty0 := tyX9) (w' := sP w a (uF (wF w a) 1 (some b))) flX9_13 huX9 rfl (by decide) (by decide) rfl tyX9_ok nmX9 (by decide +kernel) rfl rfl (Or.inr ⟨rfl, rfl, rfl⟩) hs (fun _ _ => Nat.le_of_ble_eq_true rfl) rfl (by rw [cE_obj (hs.sP _ _) (by decide), wF_sP_s, wI_sP]; rfl) (fun i hi => cE_sP_o hi) hd K
theorem flX9_16 : Cond.fieldLink RX9 16 RX9 (TX9 2).2.1 (TX9 2).2.2.1 ∈ kw := kw_in (List.mem_of_getElem? (i := 989) (by decide +kernel)) (by decide +kernel)
theorem gfX9_16 {g : Cx} {cc : ByteArray} {nL : Nat} {ret : Option FieldType} {nm : String} {d kc ks rk rn pc : Nat} {lv : List (Option Value)} {st : List Value} {w : Wd} {Q : Option Value → Wd → Prop} {a : Nat} (b : Nat) (hd : decode cc pc = .ok (.getfield 16, 3)) (hs : jK w a 9 0) (hF : wF w a 2 = some b) (K : RR g RX9 cc nL ret nm d kc ks rk rn (pc + 3) lv (.ref (gb g + b) :: st) w Q) : RR g RX9 cc nL ret nm d kc ks rk rn pc lv (.ref (gb g + a) :: st) w Q :=
  jr_get (ci := 9) (k := 2) (C := RX9) (T := TX9) (N := 32) flX9_16 huX9 rfl (by decide) (by decide) rfl hs (by show some (jrf g (wF w a 2)) = some (.ref (gb g + b)); rw [hF]; rfl) hd K
theorem pfX9_16 {g : Cx} {cc : ByteArray} {nL : Nat} {ret : Option FieldType} {d kc ks rk rn pc : Nat} {lv : List (Option Value)} {st : List Value} {w : Wd} {Q : Option Value → Wd → Prop} {a b : Nat} (hd : decode cc pc = .ok (.putfield 16, 3)) (hs : jK w a 9 0) (K : RR g RX9 cc nL ret "<init>" d kc ks rk rn (pc + 3) lv st (sP w a (uF (wF w a) 2 (some b))) Q) : RR g RX9 cc nL ret "<init>" d kc ks rk rn pc lv (.ref (gb g + b) :: .ref (gb g + a) :: st) w Q :=
  jr_put (ci := 9) (k := 2) (C := RX9) (T := TX9) (N := 32) (ty := (.array .int)) (ty0 := tyX9) (w' := sP w a (uF (wF w a) 2 (some b))) flX9_16 huX9 rfl (by decide) (by decide) rfl tyX9_ok nmX9 (by decide +kernel) rfl rfl (Or.inr ⟨rfl, rfl, rfl⟩) hs (fun _ _ => Nat.le_of_ble_eq_true rfl) rfl (by rw [cE_obj (hs.sP _ _) (by decide), wF_sP_s, wI_sP]; rfl) (fun i hi => cE_sP_o hi) hd K
theorem flX9_19 : Cond.fieldLink RX9 19 RX9 (TX9 4).2.1 (TX9 4).2.2.1 ∈ kw := kw_in (List.mem_of_getElem? (i := 991) (by decide +kernel)) (by decide +kernel)
theorem gfX9_19 {g : Cx} {cc : ByteArray} {nL : Nat} {ret : Option FieldType} {nm : String} {d kc ks rk rn pc : Nat} {lv : List (Option Value)} {st : List Value} {w : Wd} {Q : Option Value → Wd → Prop} {a : Nat} (b : Nat) (hd : decode cc pc = .ok (.getfield 19, 3)) (hs : jK w a 9 0) (hF : wF w a 4 = some b) (K : RR g RX9 cc nL ret nm d kc ks rk rn (pc + 3) lv (.ref (gb g + b) :: st) w Q) : RR g RX9 cc nL ret nm d kc ks rk rn pc lv (.ref (gb g + a) :: st) w Q :=
  jr_get (ci := 9) (k := 4) (C := RX9) (T := TX9) (N := 32) flX9_19 huX9 rfl (by decide) (by decide) rfl hs (by show some (jrf g (wF w a 4)) = some (.ref (gb g + b)); rw [hF]; rfl) hd K
theorem pfX9_19 {g : Cx} {cc : ByteArray} {nL : Nat} {ret : Option FieldType} {d kc ks rk rn pc : Nat} {lv : List (Option Value)} {st : List Value} {w : Wd} {Q : Option Value → Wd → Prop} {a b : Nat} (hd : decode cc pc = .ok (.putfield 19, 3)) (hs : jK w a 9 0) (K : RR g RX9 cc nL ret "<init>" d kc ks rk rn (pc + 3) lv st (sP w a (uF (wF w a) 4 (some b))) Q) : RR g RX9 cc nL ret "<init>" d kc ks rk rn pc lv (.ref (gb g + b) :: .ref (gb g + a) :: st) w Q :=
  jr_put (ci := 9) (k := 4) (C := RX9) (T := TX9) (N := 32) (ty := (.array .int)) (ty0 := tyX9) (w' := sP w a (uF (wF w a) 4 (some b))) flX9_19 huX9 rfl (by decide) (by decide) rfl tyX9_ok nmX9 (by decide +kernel) rfl rfl (Or.inr ⟨rfl, rfl, rfl⟩) hs (fun _ _ => Nat.le_of_ble_eq_true rfl) rfl (by rw [cE_obj (hs.sP _ _) (by decide), wF_sP_s, wI_sP]; rfl) (fun i hi => cE_sP_o hi) hd K
theorem flX9_22 : Cond.fieldLink RX9 22 RX9 (TX9 5).2.1 (TX9 5).2.2.1 ∈ kw := kw_in (List.mem_of_getElem? (i := 992) (by decide +kernel)) (by decide +kernel)
theorem gfX9_22 {g : Cx} {cc : ByteArray} {nL : Nat} {ret : Option FieldType} {nm : String} {d kc ks rk rn pc : Nat} {lv : List (Option Value)} {st : List Value} {w : Wd} {Q : Option Value → Wd → Prop} {a : Nat} (b : Nat) (hd : decode cc pc = .ok (.getfield 22, 3)) (hs : jK w a 9 0) (hF : wF w a 5 = some b) (K : RR g RX9 cc nL ret nm d kc ks rk rn (pc + 3) lv (.ref (gb g + b) :: st) w Q) : RR g RX9 cc nL ret nm d kc ks rk rn pc lv (.ref (gb g + a) :: st) w Q :=
  jr_get (ci := 9) (k := 5) (C := RX9) (T := TX9) (N := 32) flX9_22 huX9 rfl (by decide) (by decide) rfl hs (by show some (jrf g (wF w a 5)) = some (.ref (gb g + b)); rw [hF]; rfl) hd K
theorem pfX9_22 {g : Cx} {cc : ByteArray} {nL : Nat} {ret : Option FieldType} {d kc ks rk rn pc : Nat} {lv : List (Option Value)} {st : List Value} {w : Wd} {Q : Option Value → Wd → Prop} {a b : Nat} (hd : decode cc pc = .ok (.putfield 22, 3)) (hs : jK w a 9 0) (K : RR g RX9 cc nL ret "<init>" d kc ks rk rn (pc + 3) lv st (sP w a (uF (wF w a) 5 (some b))) Q) : RR g RX9 cc nL ret "<init>" d kc ks rk rn pc lv (.ref (gb g + b) :: .ref (gb g + a) :: st) w Q :=
  jr_put (ci := 9) (k := 5) (C := RX9) (T := TX9) (N := 32) (ty := (.array .int)) (ty0 := tyX9) (w' := sP w a (uF (wF w a) 5 (some b))) flX9_22 huX9 rfl (by decide) (by decide) rfl tyX9_ok nmX9 (by decide +kernel) rfl rfl (Or.inr ⟨rfl, rfl, rfl⟩) hs (fun _ _ => Nat.le_of_ble_eq_true rfl) rfl (by rw [cE_obj (hs.sP _ _) (by decide), wF_sP_s, wI_sP]; rfl) (fun i hi => cE_sP_o hi) hd K
theorem flX9_25 : Cond.fieldLink RX9 25 RX9 (TX9 6).2.1 (TX9 6).2.2.1 ∈ kw := kw_in (List.mem_of_getElem? (i := 993) (by decide +kernel)) (by decide +kernel)
theorem gfX9_25 {g : Cx} {cc : ByteArray} {nL : Nat} {ret : Option FieldType} {nm : String} {d kc ks rk rn pc : Nat} {lv : List (Option Value)} {st : List Value} {w : Wd} {Q : Option Value → Wd → Prop} {a : Nat} (b : Nat) (hd : decode cc pc = .ok (.getfield 25, 3)) (hs : jK w a 9 0) (hF : wF w a 6 = some b) (K : RR g RX9 cc nL ret nm d kc ks rk rn (pc + 3) lv (.ref (gb g + b) :: st) w Q) : RR g RX9 cc nL ret nm d kc ks rk rn pc lv (.ref (gb g + a) :: st) w Q :=
  jr_get (ci := 9) (k := 6) (C := RX9) (T := TX9) (N := 32) flX9_25 huX9 rfl (by decide) (by decide) rfl hs (by show some (jrf g (wF w a 6)) = some (.ref (gb g + b)); rw [hF]; rfl) hd K
theorem pfX9_25 {g : Cx} {cc : ByteArray} {nL : Nat} {ret : Option FieldType} {d kc ks rk rn pc : Nat} {lv : List (Option Value)} {st : List Value} {w : Wd} {Q : Option Value → Wd → Prop} {a b : Nat} (hd : decode cc pc = .ok (.putfield 25, 3)) (hs : jK w a 9 0) (K : RR g RX9 cc nL ret "<init>" d kc ks rk rn (pc + 3) lv st (sP w a (uF (wF w a) 6 (some b))) Q) : RR g RX9 cc nL ret "<init>" d kc ks rk rn pc lv (.ref (gb g + b) :: .ref (gb g + a) :: st) w Q :=
  jr_put (ci := 9) (k := 6) (C := RX9) (T := TX9) (N := 32) (ty := (.array .int)) (ty0 := tyX9) (w' := sP w a (uF (wF w a) 6 (some b))) flX9_25 huX9 rfl (by decide) (by decide) rfl tyX9_ok nmX9 (by decide +kernel) rfl rfl (Or.inr ⟨rfl, rfl, rfl⟩) hs (fun _ _ => Nat.le_of_ble_eq_true rfl) rfl (by rw [cE_obj (hs.sP _ _) (by decide), wF_sP_s, wI_sP]; rfl) (fun i hi => cE_sP_o hi) hd K
theorem flX9_28 : Cond.fieldLink RX9 28 RX9 (TX9 7).2.1 (TX9 7).2.2.1 ∈ kw := kw_in (List.mem_of_getElem? (i := 994) (by decide +kernel)) (by decide +kernel)
theorem gfX9_28 {g : Cx} {cc : ByteArray} {nL : Nat} {ret : Option FieldType} {nm : String} {d kc ks rk rn pc : Nat} {lv : List (Option Value)} {st : List Value} {w : Wd} {Q : Option Value → Wd → Prop} {a : Nat} (b : Nat) (hd : decode cc pc = .ok (.getfield 28, 3)) (hs : jK w a 9 0) (hF : wF w a 7 = some b) (K : RR g RX9 cc nL ret nm d kc ks rk rn (pc + 3) lv (.ref (gb g + b) :: st) w Q) : RR g RX9 cc nL ret nm d kc ks rk rn pc lv (.ref (gb g + a) :: st) w Q :=
  jr_get (ci := 9) (k := 7) (C := RX9) (T := TX9) (N := 32) flX9_28 huX9 rfl (by decide) (by decide) rfl hs (by show some (jrf g (wF w a 7)) = some (.ref (gb g + b)); rw [hF]; rfl) hd K
theorem pfX9_28 {g : Cx} {cc : ByteArray} {nL : Nat} {ret : Option FieldType} {d kc ks rk rn pc : Nat} {lv : List (Option Value)} {st : List Value} {w : Wd} {Q : Option Value → Wd → Prop} {a b : Nat} (hd : decode cc pc = .ok (.putfield 28, 3)) (hs : jK w a 9 0) (K : RR g RX9 cc nL ret "<init>" d kc ks rk rn (pc + 3) lv st (sP w a (uF (wF w a) 7 (some b))) Q) : RR g RX9 cc nL ret "<init>" d kc ks rk rn pc lv (.ref (gb g + b) :: .ref (gb g + a) :: st) w Q :=
  jr_put (ci := 9) (k := 7) (C := RX9) (T := TX9) (N := 32) (ty := (.array .int)) (ty0 := tyX9) (w' := sP w a (uF (wF w a) 7 (some b))) flX9_28 huX9 rfl (by decide) (by decide) rfl tyX9_ok nmX9 (by decide +kernel) rfl rfl (Or.inr ⟨rfl, rfl, rfl⟩) hs (fun _ _ => Nat.le_of_ble_eq_true rfl) rfl (by rw [cE_obj (hs.sP _ _) (by decide), wF_sP_s, wI_sP]; rfl) (fun i hi => cE_sP_o hi) hd K
theorem flX9_31 : Cond.fieldLink RX9 31 RX9 (TX9 8).2.1 (TX9 8).2.2.1 ∈ kw := kw_in (List.mem_of_getElem? (i := 995) (by decide +kernel)) (by decide +kernel)
theorem gfX9_31 {g : Cx} {cc : ByteArray} {nL : Nat} {ret : Option FieldType} {nm : String} {d kc ks rk rn pc : Nat} {lv : List (Option Value)} {st : List Value} {w : Wd} {Q : Option Value → Wd → Prop} {a : Nat} (b : Nat) (hd : decode cc pc = .ok (.getfield 31, 3)) (hs : jK w a 9 0) (hF : wF w a 8 = some b) (K : RR g RX9 cc nL ret nm d kc ks rk rn (pc + 3) lv (.ref (gb g + b) :: st) w Q) : RR g RX9 cc nL ret nm d kc ks rk rn pc lv (.ref (gb g + a) :: st) w Q :=
  jr_get (ci := 9) (k := 8) (C := RX9) (T := TX9) (N := 32) flX9_31 huX9 rfl (by decide) (by decide) rfl hs (by show some (jrf g (wF w a 8)) = some (.ref (gb g + b)); rw [hF]; rfl) hd K
theorem pfX9_31 {g : Cx} {cc : ByteArray} {nL : Nat} {ret : Option FieldType} {d kc ks rk rn pc : Nat} {lv : List (Option Value)} {st : List Value} {w : Wd} {Q : Option Value → Wd → Prop} {a b : Nat} (hd : decode cc pc = .ok (.putfield 31, 3)) (hs : jK w a 9 0) (K : RR g RX9 cc nL ret "<init>" d kc ks rk rn (pc + 3) lv st (sP w a (uF (wF w a) 8 (some b))) Q) : RR g RX9 cc nL ret "<init>" d kc ks rk rn pc lv (.ref (gb g + b) :: .ref (gb g + a) :: st) w Q :=
  jr_put (ci := 9) (k := 8) (C := RX9) (T := TX9) (N := 32) (ty := (.array .int)) (ty0 := tyX9) (w' := sP w a (uF (wF w a) 8 (some b))) flX9_31 huX9 rfl (by decide) (by decide) rfl tyX9_ok nmX9 (by decide +kernel) rfl rfl (Or.inr ⟨rfl, rfl, rfl⟩) hs (fun _ _ => Nat.le_of_ble_eq_true rfl) rfl (by rw [cE_obj (hs.sP _ _) (by decide), wF_sP_s, wI_sP]; rfl) (fun i hi => cE_sP_o hi) hd K
theorem flX9_34 : Cond.fieldLink RX9 34 RX9 (TX9 9).2.1 (TX9 9).2.2.1 ∈ kw := kw_in (List.mem_of_getElem? (i := 996) (by decide +kernel)) (by decide +kernel)
theorem gfX9_34 {g : Cx} {cc : ByteArray} {nL : Nat} {ret : Option FieldType} {nm : String} {d kc ks rk rn pc : Nat} {lv : List (Option Value)} {st : List Value} {w : Wd} {Q : Option Value → Wd → Prop} {a : Nat} (b : Nat) (hd : decode cc pc = .ok (.getfield 34, 3)) (hs : jK w a 9 0) (hF : wF w a 9 = some b) (K : RR g RX9 cc nL ret nm d kc ks rk rn (pc + 3) lv (.ref (gb g + b) :: st) w Q) : RR g RX9 cc nL ret nm d kc ks rk rn pc lv (.ref (gb g + a) :: st) w Q :=
  jr_get (ci := 9) (k := 9) (C := RX9) (T := TX9) (N := 32) flX9_34 huX9 rfl (by decide) (by decide) rfl hs (by show some (jrf g (wF w a 9)) = some (.ref (gb g + b)); rw [hF]; rfl) hd K
theorem pfX9_34 {g : Cx} {cc : ByteArray} {nL : Nat} {ret : Option FieldType} {d kc ks rk rn pc : Nat} {lv : List (Option Value)} {st : List Value} {w : Wd} {Q : Option Value → Wd → Prop} {a b : Nat} (hd : decode cc pc = .ok (.putfield 34, 3)) (hs : jK w a 9 0) (K : RR g RX9 cc nL ret "<init>" d kc ks rk rn (pc + 3) lv st (sP w a (uF (wF w a) 9 (some b))) Q) : RR g RX9 cc nL ret "<init>" d kc ks rk rn pc lv (.ref (gb g + b) :: .ref (gb g + a) :: st) w Q :=
  jr_put (ci := 9) (k := 9) (C := RX9) (T := TX9) (N := 32) (ty := (.array .int)) (ty0 := tyX9) (w' := sP w a (uF (wF w a) 9 (some b))) flX9_34 huX9 rfl (by decide) (by decide) rfl tyX9_ok nmX9 (by decide +kernel) rfl rfl (Or.inr ⟨rfl, rfl, rfl⟩) hs (fun _ _ => Nat.le_of_ble_eq_true rfl) rfl (by rw [cE_obj (hs.sP _ _) (by decide), wF_sP_s, wI_sP]; rfl) (fun i hi => cE_sP_o hi) hd K
theorem flX9_37 : Cond.fieldLink RX9 37 RX9 (TX9 10).2.1 (TX9 10).2.2.1 ∈ kw := kw_in (List.mem_of_getElem? (i := 997) (by decide +kernel)) (by decide +kernel)
theorem gfX9_37 {g : Cx} {cc : ByteArray} {nL : Nat} {ret : Option FieldType} {nm : String} {d kc ks rk rn pc : Nat} {lv : List (Option Value)} {st : List Value} {w : Wd} {Q : Option Value → Wd → Prop} {a : Nat} (b : Nat) (hd : decode cc pc = .ok (.getfield 37, 3)) (hs : jK w a 9 0) (hF : wF w a 10 = some b) (K : RR g RX9 cc nL ret nm d kc ks rk rn (pc + 3) lv (.ref (gb g + b) :: st) w Q) : RR g RX9 cc nL ret nm d kc ks rk rn pc lv (.ref (gb g + a) :: st) w Q :=
  jr_get (ci := 9) (k := 10) (C := RX9) (T := TX9) (N := 32) flX9_37 huX9 rfl (by decide) (by decide) rfl hs (by show some (jrf g (wF w a 10)) = some (.ref (gb g + b)); rw [hF]; rfl) hd K
theorem pfX9_37 {g : Cx} {cc : ByteArray} {nL : Nat} {ret : Option FieldType} {d kc ks rk rn pc : Nat} {lv : List (Option Value)} {st : List Value} {w : Wd} {Q : Option Value → Wd → Prop} {a b : Nat} (hd : decode cc pc = .ok (.putfield 37, 3)) (hs : jK w a 9 0) (K : RR g RX9 cc nL ret "<init>" d kc ks rk rn (pc + 3) lv st (sP w a (uF (wF w a) 10 (some b))) Q) : RR g RX9 cc nL ret "<init>" d kc ks rk rn pc lv (.ref (gb g + b) :: .ref (gb g + a) :: st) w Q :=
  jr_put (ci := 9) (k := 10) (C := RX9) (T := TX9) (N := 32) (ty := (.array .int)) (ty0 := tyX9) (w' := sP w a (uF (wF w a) 10 (some b))) flX9_37 huX9 rfl (by decide) (by decide) rfl tyX9_ok nmX9 (by decide +kernel) rfl rfl (Or.inr ⟨rfl, rfl, rfl⟩) hs (fun _ _ => Nat.le_of_ble_eq_true rfl) rfl (by rw [cE_obj (hs.sP _ _) (by decide), wF_sP_s, wI_sP]; rfl) (fun i hi => cE_sP_o hi) hd K
theorem flX9_40 : Cond.fieldLink RX9 40 RX9 (TX9 11).2.1 (TX9 11).2.2.1 ∈ kw := kw_in (List.mem_of_getElem? (i := 998) (by decide +kernel)) (by decide +kernel)
theorem gfX9_40 {g : Cx} {cc : ByteArray} {nL : Nat} {ret : Option FieldType} {nm : String} {d kc ks rk rn pc : Nat} {lv : List (Option Value)} {st : List Value} {w : Wd} {Q : Option Value → Wd → Prop} {a : Nat} (b : Nat) (hd : decode cc pc = .ok (.getfield 40, 3)) (hs : jK w a 9 0) (hF : wF w a 11 = some b) (K : RR g RX9 cc nL ret nm d kc ks rk rn (pc + 3) lv (.ref (gb g + b) :: st) w Q) : RR g RX9 cc nL ret nm d kc ks rk rn pc lv (.ref (gb g + a) :: st) w Q :=
  jr_get (ci := 9) (k := 11) (C := RX9) (T := TX9) (N := 32) flX9_40 huX9 rfl (by decide) (by decide) rfl hs (by show some (jrf g (wF w a 11)) = some (.ref (gb g + b)); rw [hF]; rfl) hd K
theorem pfX9_40 {g : Cx} {cc : ByteArray} {nL : Nat} {ret : Option FieldType} {d kc ks rk rn pc : Nat} {lv : List (Option Value)} {st : List Value} {w : Wd} {Q : Option Value → Wd → Prop} {a b : Nat} (hd : decode cc pc = .ok (.putfield 40, 3)) (hs : jK w a 9 0) (K : RR g RX9 cc nL ret "<init>" d kc ks rk rn (pc + 3) lv st (sP w a (uF (wF w a) 11 (some b))) Q) : RR g RX9 cc nL ret "<init>" d kc ks rk rn pc lv (.ref (gb g + b) :: .ref (gb g + a) :: st) w Q :=
  jr_put (ci := 9) (k := 11) (C := RX9) (T := TX9) (N := 32) (ty := (.array .int)) (ty0 := tyX9) (w' := sP w a (uF (wF w a) 11 (some b))) flX9_40 huX9 rfl (by decide) (by decide) rfl tyX9_ok nmX9 (by decide +kernel) rfl rfl (Or.inr ⟨rfl, rfl, rfl⟩) hs (fun _ _ => Nat.le_of_ble_eq_true rfl) rfl (by rw [cE_obj (hs.sP _ _) (by decide), wF_sP_s, wI_sP]; rfl) (fun i hi => cE_sP_o hi) hd K
theorem flX9_43 : Cond.fieldLink RX9 43 RX9 (TX9 12).2.1 (TX9 12).2.2.1 ∈ kw := kw_in (List.mem_of_getElem? (i := 999) (by decide +kernel)) (by decide +kernel)
theorem gfX9_43 {g : Cx} {cc : ByteArray} {nL : Nat} {ret : Option FieldType} {nm : String} {d kc ks rk rn pc : Nat} {lv : List (Option Value)} {st : List Value} {w : Wd} {Q : Option Value → Wd → Prop} {a : Nat} (b : Nat) (hd : decode cc pc = .ok (.getfield 43, 3)) (hs : jK w a 9 0) (hF : wF w a 12 = some b) (K : RR g RX9 cc nL ret nm d kc ks rk rn (pc + 3) lv (.ref (gb g + b) :: st) w Q) : RR g RX9 cc nL ret nm d kc ks rk rn pc lv (.ref (gb g + a) :: st) w Q :=
  jr_get (ci := 9) (k := 12) (C := RX9) (T := TX9) (N := 32) flX9_43 huX9 rfl (by decide) (by decide) rfl hs (by show some (jrf g (wF w a 12)) = some (.ref (gb g + b)); rw [hF]; rfl) hd K
theorem pfX9_43 {g : Cx} {cc : ByteArray} {nL : Nat} {ret : Option FieldType} {d kc ks rk rn pc : Nat} {lv : List (Option Value)} {st : List Value} {w : Wd} {Q : Option Value → Wd → Prop} {a b : Nat} (hd : decode cc pc = .ok (.putfield 43, 3)) (hs : jK w a 9 0) (K : RR g RX9 cc nL ret "<init>" d kc ks rk rn (pc + 3) lv st (sP w a (uF (wF w a) 12 (some b))) Q) : RR g RX9 cc nL ret "<init>" d kc ks rk rn pc lv (.ref (gb g + b) :: .ref (gb g + a) :: st) w Q :=
  jr_put (ci := 9) (k := 12) (C := RX9) (T := TX9) (N := 32) (ty := (.array .int)) (ty0 := tyX9) (w' := sP w a (uF (wF w a) 12 (some b))) flX9_43 huX9 rfl (by decide) (by decide) rfl tyX9_ok nmX9 (by decide +kernel) rfl rfl (Or.inr ⟨rfl, rfl, rfl⟩) hs (fun _ _ => Nat.le_of_ble_eq_true rfl) rfl (by rw [cE_obj (hs.sP _ _) (by decide), wF_sP_s, wI_sP]; rfl) (fun i hi => cE_sP_o hi) hd K
theorem flX9_46 : Cond.fieldLink RX9 46 RX9 (TX9 13).2.1 (TX9 13).2.2.1 ∈ kw := kw_in (List.mem_of_getElem? (i := 1000) (by decide +kernel)) (by decide +kernel)
theorem gfX9_46 {g : Cx} {cc : ByteArray} {nL : Nat} {ret : Option FieldType} {nm : String} {d kc ks rk rn pc : Nat} {lv : List (Option Value)} {st : List Value} {w : Wd} {Q : Option Value → Wd → Prop} {a : Nat} (b : Nat) (hd : decode cc pc = .ok (.getfield 46, 3)) (hs : jK w a 9 0) (hF : wF w a 13 = some b) (K : RR g RX9 cc nL ret nm d kc ks rk rn (pc + 3) lv (.ref (gb g + b) :: st) w Q) : RR g RX9 cc nL ret nm d kc ks rk rn pc lv (.ref (gb g + a) :: st) w Q :=
  jr_get (ci := 9) (k := 13) (C := RX9) (T := TX9) (N := 32) flX9_46 huX9 rfl (by decide) (by decide) rfl hs (by show some (jrf g (wF w a 13)) = some (.ref (gb g + b)); rw [hF]; rfl) hd K
theorem pfX9_46 {g : Cx} {cc : ByteArray} {nL : Nat} {ret : Option FieldType} {d kc ks rk rn pc : Nat} {lv : List (Option Value)} {st : List Value} {w : Wd} {Q : Option Value → Wd → Prop} {a b : Nat} (hd : decode cc pc = .ok (.putfield 46, 3)) (hs : jK w a 9 0) (K : RR g RX9 cc nL ret "<init>" d kc ks rk rn (pc + 3) lv st (sP w a (uF (wF w a) 13 (some b))) Q) : RR g RX9 cc nL ret "<init>" d kc ks rk rn pc lv (.ref (gb g + b) :: .ref (gb g + a) :: st) w Q :=
  jr_put (ci := 9) (k := 13) (C := RX9) (T := TX9) (N := 32) (ty := (.array .int)) (ty0 := tyX9) (w' := sP w a (uF (wF w a) 13 (some b))) flX9_46 huX9 rfl (by decide) (by decide) rfl tyX9_ok nmX9 (by decide +kernel) rfl rfl (Or.inr ⟨rfl, rfl, rfl⟩) hs (fun _ _ => Nat.le_of_ble_eq_true rfl) rfl (by rw [cE_obj (hs.sP _ _) (by decide), wF_sP_s, wI_sP]; rfl) (fun i hi => cE_sP_o hi) hd K
theorem flX9_49 : Cond.fieldLink RX9 49 RX9 (TX9 14).2.1 (TX9 14).2.2.1 ∈ kw := kw_in (List.mem_of_getElem? (i := 1001) (by decide +kernel)) (by decide +kernel)
theorem gfX9_49 {g : Cx} {cc : ByteArray} {nL : Nat} {ret : Option FieldType} {nm : String} {d kc ks rk rn pc : Nat} {lv : List (Option Value)} {st : List Value} {w : Wd} {Q : Option Value → Wd → Prop} {a : Nat} (b : Nat) (hd : decode cc pc = .ok (.getfield 49, 3)) (hs : jK w a 9 0) (hF : wF w a 14 = some b) (K : RR g RX9 cc nL ret nm d kc ks rk rn (pc + 3) lv (.ref (gb g + b) :: st) w Q) : RR g RX9 cc nL ret nm d kc ks rk rn pc lv (.ref (gb g + a) :: st) w Q :=
  jr_get (ci := 9) (k := 14) (C := RX9) (T := TX9) (N := 32) flX9_49 huX9 rfl (by decide) (by decide) rfl hs (by show some (jrf g (wF w a 14)) = some (.ref (gb g + b)); rw [hF]; rfl) hd K
theorem pfX9_49 {g : Cx} {cc : ByteArray} {nL : Nat} {ret : Option FieldType} {d kc ks rk rn pc : Nat} {lv : List (Option Value)} {st : List Value} {w : Wd} {Q : Option Value → Wd → Prop} {a b : Nat} (hd : decode cc pc = .ok (.putfield 49, 3)) (hs : jK w a 9 0) (K : RR g RX9 cc nL ret "<init>" d kc ks rk rn (pc + 3) lv st (sP w a (uF (wF w a) 14 (some b))) Q) : RR g RX9 cc nL ret "<init>" d kc ks rk rn pc lv (.ref (gb g + b) :: .ref (gb g + a) :: st) w Q :=
  jr_put (ci := 9) (k := 14) (C := RX9) (T := TX9) (N := 32) (ty := (.array .int)) (ty0 := tyX9) (w' := sP w a (uF (wF w a) 14 (some b))) flX9_49 huX9 rfl (by decide) (by decide) rfl tyX9_ok nmX9 (by decide +kernel) rfl rfl (Or.inr ⟨rfl, rfl, rfl⟩) hs (fun _ _ => Nat.le_of_ble_eq_true rfl) rfl (by rw [cE_obj (hs.sP _ _) (by decide), wF_sP_s, wI_sP]; rfl) (fun i hi => cE_sP_o hi) hd K
theorem flX9_52 : Cond.fieldLink RX9 52 RX9 (TX9 26).2.1 (TX9 26).2.2.1 ∈ kw := kw_in (List.mem_of_getElem? (i := 1013) (by decide +kernel)) (by decide +kernel)
theorem gfX9_52 {g : Cx} {cc : ByteArray} {nL : Nat} {ret : Option FieldType} {nm : String} {d kc ks rk rn pc : Nat} {lv : List (Option Value)} {st : List Value} {w : Wd} {Q : Option Value → Wd → Prop} {a : Nat} (b : Nat) (hd : decode cc pc = .ok (.getfield 52, 3)) (hs : jK w a 9 0) (hF : wF w a 26 = some b) (K : RR g RX9 cc nL ret nm d kc ks rk rn (pc + 3) lv (.ref (gb g + b) :: st) w Q) : RR g RX9 cc nL ret nm d kc ks rk rn pc lv (.ref (gb g + a) :: st) w Q :=
  jr_get (ci := 9) (k := 26) (C := RX9) (T := TX9) (N := 32) flX9_52 huX9 rfl (by decide) (by decide) rfl hs (by show some (jrf g (wF w a 26)) = some (.ref (gb g + b)); rw [hF]; rfl) hd K
theorem pfX9_52 {g : Cx} {cc : ByteArray} {nL : Nat} {ret : Option FieldType} {d kc ks rk rn pc : Nat} {lv : List (Option Value)} {st : List Value} {w : Wd} {Q : Option Value → Wd → Prop} {a b : Nat} (hd : decode cc pc = .ok (.putfield 52, 3)) (hs : jK w a 9 0) (K : RR g RX9 cc nL ret "<init>" d kc ks rk rn (pc + 3) lv st (sP w a (uF (wF w a) 26 (some b))) Q) : RR g RX9 cc nL ret "<init>" d kc ks rk rn pc lv (.ref (gb g + b) :: .ref (gb g + a) :: st) w Q :=
  jr_put (ci := 9) (k := 26) (C := RX9) (T := TX9) (N := 32) (ty := (.array .int)) (ty0 := tyX9) (w' := sP w a (uF (wF w a) 26 (some b))) flX9_52 huX9 rfl (by decide) (by decide) rfl tyX9_ok nmX9 (by decide +kernel) rfl rfl (Or.inr ⟨rfl, rfl, rfl⟩) hs (fun _ _ => Nat.le_of_ble_eq_true rfl) rfl (by rw [cE_obj (hs.sP _ _) (by decide), wF_sP_s, wI_sP]; rfl) (fun i hi => cE_sP_o hi) hd K
theorem flX9_55 : Cond.fieldLink RX9 55 RX9 (TX9 27).2.1 (TX9 27).2.2.1 ∈ kw := kw_in (List.mem_of_getElem? (i := 1014) (by decide +kernel)) (by decide +kernel)
theorem gfX9_55 {g : Cx} {cc : ByteArray} {nL : Nat} {ret : Option FieldType} {nm : String} {d kc ks rk rn pc : Nat} {lv : List (Option Value)} {st : List Value} {w : Wd} {Q : Option Value → Wd → Prop} {a : Nat} (b : Nat) (hd : decode cc pc = .ok (.getfield 55, 3)) (hs : jK w a 9 0) (hF : wF w a 27 = some b) (K : RR g RX9 cc nL ret nm d kc ks rk rn (pc + 3) lv (.ref (gb g + b) :: st) w Q) : RR g RX9 cc nL ret nm d kc ks rk rn pc lv (.ref (gb g + a) :: st) w Q :=
  jr_get (ci := 9) (k := 27) (C := RX9) (T := TX9) (N := 32) flX9_55 huX9 rfl (by decide) (by decide) rfl hs (by show some (jrf g (wF w a 27)) = some (.ref (gb g + b)); rw [hF]; rfl) hd K
theorem pfX9_55 {g : Cx} {cc : ByteArray} {nL : Nat} {ret : Option FieldType} {d kc ks rk rn pc : Nat} {lv : List (Option Value)} {st : List Value} {w : Wd} {Q : Option Value → Wd → Prop} {a b : Nat} (hd : decode cc pc = .ok (.putfield 55, 3)) (hs : jK w a 9 0) (K : RR g RX9 cc nL ret "<init>" d kc ks rk rn (pc + 3) lv st (sP w a (uF (wF w a) 27 (some b))) Q) : RR g RX9 cc nL ret "<init>" d kc ks rk rn pc lv (.ref (gb g + b) :: .ref (gb g + a) :: st) w Q :=
  jr_put (ci := 9) (k := 27) (C := RX9) (T := TX9) (N := 32) (ty := (.array .int)) (ty0 := tyX9) (w' := sP w a (uF (wF w a) 27 (some b))) flX9_55 huX9 rfl (by decide) (by decide) rfl tyX9_ok nmX9 (by decide +kernel) rfl rfl (Or.inr ⟨rfl, rfl, rfl⟩) hs (fun _ _ => Nat.le_of_ble_eq_true rfl) rfl (by rw [cE_obj (hs.sP _ _) (by decide), wF_sP_s, wI_sP]; rfl) (fun i hi => cE_sP_o hi) hd K
theorem flX9_58 : Cond.fieldLink RX9 58 RX9 (TX9 28).2.1 (TX9 28).2.2.1 ∈ kw := kw_in (List.mem_of_getElem? (i := 1015) (by decide +kernel)) (by decide +kernel)
theorem gfX9_58 {g : Cx} {cc : ByteArray} {nL : Nat} {ret : Option FieldType} {nm : String} {d kc ks rk rn pc : Nat} {lv : List (Option Value)} {st : List Value} {w : Wd} {Q : Option Value → Wd → Prop} {a : Nat} (b : Nat) (hd : decode cc pc = .ok (.getfield 58, 3)) (hs : jK w a 9 0) (hF : wF w a 28 = some b) (K : RR g RX9 cc nL ret nm d kc ks rk rn (pc + 3) lv (.ref (gb g + b) :: st) w Q) : RR g RX9 cc nL ret nm d kc ks rk rn pc lv (.ref (gb g + a) :: st) w Q :=
  jr_get (ci := 9) (k := 28) (C := RX9) (T := TX9) (N := 32) flX9_58 huX9 rfl (by decide) (by decide) rfl hs (by show some (jrf g (wF w a 28)) = some (.ref (gb g + b)); rw [hF]; rfl) hd K
theorem pfX9_58 {g : Cx} {cc : ByteArray} {nL : Nat} {ret : Option FieldType} {d kc ks rk rn pc : Nat} {lv : List (Option Value)} {st : List Value} {w : Wd} {Q : Option Value → Wd → Prop} {a b : Nat} (hd : decode cc pc = .ok (.putfield 58, 3)) (hs : jK w a 9 0) (K : RR g RX9 cc nL ret "<init>" d kc ks rk rn (pc + 3) lv st (sP w a (uF (wF w a) 28 (some b))) Q) : RR g RX9 cc nL ret "<init>" d kc ks rk rn pc lv (.ref (gb g + b) :: .ref (gb g + a) :: st) w Q :=
  jr_put (ci := 9) (k := 28) (C := RX9) (T := TX9) (N := 32) (ty := (.array .int)) (ty0 := tyX9) (w' := sP w a (uF (wF w a) 28 (some b))) flX9_58 huX9 rfl (by decide) (by decide) rfl tyX9_ok nmX9 (by decide +kernel) rfl rfl (Or.inr ⟨rfl, rfl, rfl⟩) hs (fun _ _ => Nat.le_of_ble_eq_true rfl) rfl (by rw [cE_obj (hs.sP _ _) (by decide), wF_sP_s, wI_sP]; rfl) (fun i hi => cE_sP_o hi) hd K
theorem flX9_61 : Cond.fieldLink RX9 61 RX9 (TX9 29).2.1 (TX9 29).2.2.1 ∈ kw := kw_in (List.mem_of_getElem? (i := 1016) (by decide +kernel)) (by decide +kernel)
theorem gfX9_61 {g : Cx} {cc : ByteArray} {nL : Nat} {ret : Option FieldType} {nm : String} {d kc ks rk rn pc : Nat} {lv : List (Option Value)} {st : List Value} {w : Wd} {Q : Option Value → Wd → Prop} {a : Nat} (b : Nat) (hd : decode cc pc = .ok (.getfield 61, 3)) (hs : jK w a 9 0) (hF : wF w a 29 = some b) (K : RR g RX9 cc nL ret nm d kc ks rk rn (pc + 3) lv (.ref (gb g + b) :: st) w Q) : RR g RX9 cc nL ret nm d kc ks rk rn pc lv (.ref (gb g + a) :: st) w Q :=
  jr_get (ci := 9) (k := 29) (C := RX9) (T := TX9) (N := 32) flX9_61 huX9 rfl (by decide) (by decide) rfl hs (by show some (jrf g (wF w a 29)) = some (.ref (gb g + b)); rw [hF]; rfl) hd K
theorem pfX9_61 {g : Cx} {cc : ByteArray} {nL : Nat} {ret : Option FieldType} {d kc ks rk rn pc : Nat} {lv : List (Option Value)} {st : List Value} {w : Wd} {Q : Option Value → Wd → Prop} {a b : Nat} (hd : decode cc pc = .ok (.putfield 61, 3)) (hs : jK w a 9 0) (K : RR g RX9 cc nL ret "<init>" d kc ks rk rn (pc + 3) lv st (sP w a (uF (wF w a) 29 (some b))) Q) : RR g RX9 cc nL ret "<init>" d kc ks rk rn pc lv (.ref (gb g + b) :: .ref (gb g + a) :: st) w Q :=
  jr_put (ci := 9) (k := 29) (C := RX9) (T := TX9) (N := 32) (ty := (.array .int)) (ty0 := tyX9) (w' := sP w a (uF (wF w a) 29 (some b))) flX9_61 huX9 rfl (by decide) (by decide) rfl tyX9_ok nmX9 (by decide +kernel) rfl rfl (Or.inr ⟨rfl, rfl, rfl⟩) hs (fun _ _ => Nat.le_of_ble_eq_true rfl) rfl (by rw [cE_obj (hs.sP _ _) (by decide), wF_sP_s, wI_sP]; rfl) (fun i hi => cE_sP_o hi) hd K
theorem flX9_64 : Cond.fieldLink RX9 64 RX9 (TX9 31).2.1 (TX9 31).2.2.1 ∈ kw := kw_in (List.mem_of_getElem? (i := 1018) (by decide +kernel)) (by decide +kernel)
theorem gfX9_64 {g : Cx} {cc : ByteArray} {nL : Nat} {ret : Option FieldType} {nm : String} {d kc ks rk rn pc : Nat} {lv : List (Option Value)} {st : List Value} {w : Wd} {Q : Option Value → Wd → Prop} {a : Nat} (b : Nat) (hd : decode cc pc = .ok (.getfield 64, 3)) (hs : jK w a 9 0) (hF : wF w a 31 = some b) (K : RR g RX9 cc nL ret nm d kc ks rk rn (pc + 3) lv (.ref (gb g + b) :: st) w Q) : RR g RX9 cc nL ret nm d kc ks rk rn pc lv (.ref (gb g + a) :: st) w Q :=
  jr_get (ci := 9) (k := 31) (C := RX9) (T := TX9) (N := 32) flX9_64 huX9 rfl (by decide) (by decide) rfl hs (by show some (jrf g (wF w a 31)) = some (.ref (gb g + b)); rw [hF]; rfl) hd K
theorem pfX9_64 {g : Cx} {cc : ByteArray} {nL : Nat} {ret : Option FieldType} {d kc ks rk rn pc : Nat} {lv : List (Option Value)} {st : List Value} {w : Wd} {Q : Option Value → Wd → Prop} {a b : Nat} (hd : decode cc pc = .ok (.putfield 64, 3)) (hs : jK w a 9 0) (K : RR g RX9 cc nL ret "<init>" d kc ks rk rn (pc + 3) lv st (sP w a (uF (wF w a) 31 (some b))) Q) : RR g RX9 cc nL ret "<init>" d kc ks rk rn pc lv (.ref (gb g + b) :: .ref (gb g + a) :: st) w Q :=
  jr_put (ci := 9) (k := 31) (C := RX9) (T := TX9) (N := 32) (ty := (.array .int)) (ty0 := tyX9) (w' := sP w a (uF (wF w a) 31 (some b))) flX9_64 huX9 rfl (by decide) (by decide) rfl tyX9_ok nmX9 (by decide +kernel) rfl rfl (Or.inr ⟨rfl, rfl, rfl⟩) hs (fun _ _ => Nat.le_of_ble_eq_true rfl) rfl (by rw [cE_obj (hs.sP _ _) (by decide), wF_sP_s, wI_sP]; rfl) (fun i hi => cE_sP_o hi) hd K
theorem ckX9_67 : Cond.constant RX9 67 (-1000000005) ∈ kw := kw_in (List.mem_of_getElem? (i := 1229) (by decide +kernel)) (by decide +kernel)
theorem lkX9_68 : JS RX9 68 yX9_isIn cX9_isIn 6 (some .boolean) 3 := ⟨kw_in (List.mem_of_getElem? (i := 1089) (by decide +kernel)) (by decide +kernel), kw_in (List.mem_of_getElem? (i := 1090) (by decide +kernel)) (by decide +kernel), inRX9, kcX9_isIn, by decide +kernel, by decide⟩
theorem ckX9_72 : Cond.constant RX9 72 (1103515245) ∈ kw := kw_in (List.mem_of_getElem? (i := 1202) (by decide +kernel)) (by decide +kernel)
theorem lkX9_73 : JV RX9 73 yX9_sets cX9_sets 4 none 9 3 := ⟨kw_in (List.mem_of_getElem? (i := 1100) (by decide +kernel)) (by decide +kernel), kw_in (List.mem_of_getElem? (i := 1102) (by decide +kernel)) (by decide +kernel), kw_in (List.mem_of_getElem? (i := 20) (by decide +kernel)) (by decide +kernel), inRX9, kcX9_sets, ⟨_, rfl, rfl, by decide⟩, by decide +kernel, by decide⟩
theorem ckX9_77 : Cond.constantLong RX9 77 (5) ∈ kw := kw_in (List.mem_of_getElem? (i := 1088) (by decide +kernel)) (by decide +kernel)
theorem ckX9_79 : Cond.constantLong RX9 79 (59) ∈ kw := kw_in (List.mem_of_getElem? (i := 1092) (by decide +kernel)) (by decide +kernel)
theorem ckX9_81 : Cond.constantLong RX9 81 (9) ∈ kw := kw_in (List.mem_of_getElem? (i := 1093) (by decide +kernel)) (by decide +kernel)
theorem ckX9_83 : Cond.constant RX9 83 (-1000000001) ∈ kw := kw_in (List.mem_of_getElem? (i := 1094) (by decide +kernel)) (by decide +kernel)
theorem ckX9_84 : Cond.constant RX9 84 (-1000000003) ∈ kw := kw_in (List.mem_of_getElem? (i := 1095) (by decide +kernel)) (by decide +kernel)
theorem lkX9_85 : JV RX9 85 yX9_comes cX9_comes 5 none 9 3 := ⟨kw_in (List.mem_of_getElem? (i := 1096) (by decide +kernel)) (by decide +kernel), kw_in (List.mem_of_getElem? (i := 1098) (by decide +kernel)) (by decide +kernel), kw_in (List.mem_of_getElem? (i := 19) (by decide +kernel)) (by decide +kernel), inRX9, kcX9_comes, ⟨_, rfl, rfl, by decide⟩, by decide +kernel, by decide⟩
theorem lkX9_88 : JV RX9 88 yX9_of cX9_of 3 (some .int) 9 2 := ⟨kw_in (List.mem_of_getElem? (i := 1112) (by decide +kernel)) (by decide +kernel), kw_in (List.mem_of_getElem? (i := 1114) (by decide +kernel)) (by decide +kernel), kw_in (List.mem_of_getElem? (i := 22) (by decide +kernel)) (by decide +kernel), inRX9, kcX9_of, ⟨_, rfl, rfl, by decide⟩, by decide +kernel, by decide⟩
theorem lkX9_92 : JV RX9 92 yX9_counts cX9_counts 4 (some .int) 9 1 := ⟨kw_in (List.mem_of_getElem? (i := 1132) (by decide +kernel)) (by decide +kernel), kw_in (List.mem_of_getElem? (i := 1134) (by decide +kernel)) (by decide +kernel), kw_in (List.mem_of_getElem? (i := 27) (by decide +kernel)) (by decide +kernel), inRX9, kcX9_counts, ⟨_, rfl, rfl, by decide⟩, by decide +kernel, by decide⟩
theorem lkX9_96 : JV RX9 96 yX9_worked cX9_worked 6 (some .int) 9 1 := ⟨kw_in (List.mem_of_getElem? (i := 1140) (by decide +kernel)) (by decide +kernel), kw_in (List.mem_of_getElem? (i := 1142) (by decide +kernel)) (by decide +kernel), kw_in (List.mem_of_getElem? (i := 29) (by decide +kernel)) (by decide +kernel), inRX9, kcX9_worked, ⟨_, rfl, rfl, by decide⟩, by decide +kernel, by decide⟩
theorem lkX9_99 : JV RX9 99 yX9_atHour cX9_atHour 3 (some .int) 9 2 := ⟨kw_in (List.mem_of_getElem? (i := 1124) (by decide +kernel)) (by decide +kernel), kw_in (List.mem_of_getElem? (i := 1126) (by decide +kernel)) (by decide +kernel), kw_in (List.mem_of_getElem? (i := 25) (by decide +kernel)) (by decide +kernel), inRX9, kcX9_atHour, ⟨_, rfl, rfl, by decide⟩, by decide +kernel, by decide⟩
theorem lkX9_102 : JV RX9 102 yX9_again cX9_again 5 (some .int) 9 2 := ⟨kw_in (List.mem_of_getElem? (i := 1128) (by decide +kernel)) (by decide +kernel), kw_in (List.mem_of_getElem? (i := 1130) (by decide +kernel)) (by decide +kernel), kw_in (List.mem_of_getElem? (i := 26) (by decide +kernel)) (by decide +kernel), inRX9, kcX9_again, ⟨_, rfl, rfl, by decide⟩, by decide +kernel, by decide⟩
theorem ckX9_105 : Cond.constantLong RX9 105 (719) ∈ kw := kw_in (List.mem_of_getElem? (i := 1179) (by decide +kernel)) (by decide +kernel)
theorem lkX9_107 : JV RX9 107 yX9_isClock cX9_isClock 2 (some .boolean) 9 1 := ⟨kw_in (List.mem_of_getElem? (i := 1108) (by decide +kernel)) (by decide +kernel), kw_in (List.mem_of_getElem? (i := 1110) (by decide +kernel)) (by decide +kernel), kw_in (List.mem_of_getElem? (i := 21) (by decide +kernel)) (by decide +kernel), inRX9, kcX9_isClock, ⟨_, rfl, rfl, by decide⟩, by decide +kernel, by decide⟩
theorem lkX9_111 : JV RX9 111 yX9_timeNow cX9_timeNow 1 (some .int) 9 0 := ⟨kw_in (List.mem_of_getElem? (i := 1116) (by decide +kernel)) (by decide +kernel), kw_in (List.mem_of_getElem? (i := 1118) (by decide +kernel)) (by decide +kernel), kw_in (List.mem_of_getElem? (i := 23) (by decide +kernel)) (by decide +kernel), inRX9, kcX9_timeNow, ⟨_, rfl, rfl, by decide⟩, by decide +kernel, by decide⟩
theorem lkX9_115 : JV RX9 115 yX9_strikes cX9_strikes 6 (some .int) 9 2 := ⟨kw_in (List.mem_of_getElem? (i := 1120) (by decide +kernel)) (by decide +kernel), kw_in (List.mem_of_getElem? (i := 1122) (by decide +kernel)) (by decide +kernel), kw_in (List.mem_of_getElem? (i := 24) (by decide +kernel)) (by decide +kernel), inRX9, kcX9_strikes, ⟨_, rfl, rfl, by decide⟩, by decide +kernel, by decide⟩
theorem lkX9_118 : JV RX9 118 yX9_worth cX9_worth 3 (some .int) 9 1 := ⟨kw_in (List.mem_of_getElem? (i := 1147) (by decide +kernel)) (by decide +kernel), kw_in (List.mem_of_getElem? (i := 1149) (by decide +kernel)) (by decide +kernel), kw_in (List.mem_of_getElem? (i := 30) (by decide +kernel)) (by decide +kernel), inRX9, kcX9_worth, ⟨_, rfl, rfl, by decide⟩, by decide +kernel, by decide⟩
theorem lkX9_121 : JS RX9 121 yX9_isOf cX9_isOf 2 (some .boolean) 2 := ⟨kw_in (List.mem_of_getElem? (i := 1155) (by decide +kernel)) (by decide +kernel), kw_in (List.mem_of_getElem? (i := 1156) (by decide +kernel)) (by decide +kernel), inRX9, kcX9_isOf, by decide +kernel, by decide⟩
theorem ckX9_125 : Cond.constant RX9 125 (-1000000012) ∈ kw := kw_in (List.mem_of_getElem? (i := 1158) (by decide +kernel)) (by decide +kernel)
theorem lkX9_126 : JV RX9 126 yX9_becomes cX9_becomes 4 (some .int) 9 2 := ⟨kw_in (List.mem_of_getElem? (i := 1163) (by decide +kernel)) (by decide +kernel), kw_in (List.mem_of_getElem? (i := 1165) (by decide +kernel)) (by decide +kernel), kw_in (List.mem_of_getElem? (i := 31) (by decide +kernel)) (by decide +kernel), inRX9, kcX9_becomes, ⟨_, rfl, rfl, by decide⟩, by decide +kernel, by decide⟩
theorem ckX9_129 : Cond.constantLong RX9 129 (2) ∈ kw := kw_in (List.mem_of_getElem? (i := 1171) (by decide +kernel)) (by decide +kernel)
theorem lkX9_131 : JS RX9 131 yX9_isTime cX9_isTime 1 (some .boolean) 1 := ⟨kw_in (List.mem_of_getElem? (i := 1176) (by decide +kernel)) (by decide +kernel), kw_in (List.mem_of_getElem? (i := 1177) (by decide +kernel)) (by decide +kernel), inRX9, kcX9_isTime, by decide +kernel, by decide⟩
theorem lkX9_134 : JV RX9 134 yX9_totalAt cX9_totalAt 4 (some .int) 9 1 := ⟨kw_in (List.mem_of_getElem? (i := 1184) (by decide +kernel)) (by decide +kernel), kw_in (List.mem_of_getElem? (i := 1186) (by decide +kernel)) (by decide +kernel), kw_in (List.mem_of_getElem? (i := 32) (by decide +kernel)) (by decide +kernel), inRX9, kcX9_totalAt, ⟨_, rfl, rfl, by decide⟩, by decide +kernel, by decide⟩
theorem ckX9_137 : Cond.constantLong RX9 137 (100) ∈ kw := kw_in (List.mem_of_getElem? (i := 1192) (by decide +kernel)) (by decide +kernel)
theorem ckX9_139 : Cond.constantLong RX9 139 (6) ∈ kw := kw_in (List.mem_of_getElem? (i := 1197) (by decide +kernel)) (by decide +kernel)
theorem lkX9_141 : JV RX9 141 yX9_drawn cX9_drawn 1 (some .int) 9 0 := ⟨kw_in (List.mem_of_getElem? (i := 1198) (by decide +kernel)) (by decide +kernel), kw_in (List.mem_of_getElem? (i := 1200) (by decide +kernel)) (by decide +kernel), kw_in (List.mem_of_getElem? (i := 33) (by decide +kernel)) (by decide +kernel), inRX9, kcX9_drawn, ⟨_, rfl, rfl, by decide⟩, by decide +kernel, by decide⟩
theorem lkX9_144 : JV RX9 144 yX9_goesOn cX9_goesOn 4 none 9 0 := ⟨kw_in (List.mem_of_getElem? (i := 1215) (by decide +kernel)) (by decide +kernel), kw_in (List.mem_of_getElem? (i := 1217) (by decide +kernel)) (by decide +kernel), kw_in (List.mem_of_getElem? (i := 35) (by decide +kernel)) (by decide +kernel), inRX9, kcX9_goesOn, ⟨_, rfl, rfl, by decide⟩, by decide +kernel, by decide⟩
theorem lkX9_147 : JV RX9 147 yX9_goesOnMany cX9_goesOnMany 3 none 9 1 := ⟨kw_in (List.mem_of_getElem? (i := 1211) (by decide +kernel)) (by decide +kernel), kw_in (List.mem_of_getElem? (i := 1213) (by decide +kernel)) (by decide +kernel), kw_in (List.mem_of_getElem? (i := 34) (by decide +kernel)) (by decide +kernel), inRX9, kcX9_goesOnMany, ⟨_, rfl, rfl, by decide⟩, by decide +kernel, by decide⟩
theorem ckX9_151 : Cond.constantLong RX9 151 (3) ∈ kw := kw_in (List.mem_of_getElem? (i := 1223) (by decide +kernel)) (by decide +kernel)
theorem ckX9_153 : Cond.constantLong RX9 153 (11) ∈ kw := kw_in (List.mem_of_getElem? (i := 1228) (by decide +kernel)) (by decide +kernel)
theorem lkX9_155 : JV RX9 155 yX9_doesFit cX9_doesFit 6 (some .boolean) 9 1 := ⟨kw_in (List.mem_of_getElem? (i := 1238) (by decide +kernel)) (by decide +kernel), kw_in (List.mem_of_getElem? (i := 1240) (by decide +kernel)) (by decide +kernel), kw_in (List.mem_of_getElem? (i := 37) (by decide +kernel)) (by decide +kernel), inRX9, kcX9_doesFit, ⟨_, rfl, rfl, by decide⟩, by decide +kernel, by decide⟩
theorem lkX9_158 : JV RX9 158 yX9_hoursFit cX9_hoursFit 3 (some .int) 9 0 := ⟨kw_in (List.mem_of_getElem? (i := 1250) (by decide +kernel)) (by decide +kernel), kw_in (List.mem_of_getElem? (i := 1252) (by decide +kernel)) (by decide +kernel), kw_in (List.mem_of_getElem? (i := 39) (by decide +kernel)) (by decide +kernel), inRX9, kcX9_hoursFit, ⟨_, rfl, rfl, by decide⟩, by decide +kernel, by decide⟩
theorem lkX9_161 : JV RX9 161 yX9_findAll cX9_findAll 2 none 9 0 := ⟨kw_in (List.mem_of_getElem? (i := 1234) (by decide +kernel)) (by decide +kernel), kw_in (List.mem_of_getElem? (i := 1236) (by decide +kernel)) (by decide +kernel), kw_in (List.mem_of_getElem? (i := 36) (by decide +kernel)) (by decide +kernel), inRX9, kcX9_findAll, ⟨_, rfl, rfl, by decide⟩, by decide +kernel, by decide⟩
theorem lkX9_164 : JV RX9 164 yX9_manyFit cX9_manyFit 3 (some .int) 9 0 := ⟨kw_in (List.mem_of_getElem? (i := 1246) (by decide +kernel)) (by decide +kernel), kw_in (List.mem_of_getElem? (i := 1248) (by decide +kernel)) (by decide +kernel), kw_in (List.mem_of_getElem? (i := 38) (by decide +kernel)) (by decide +kernel), inRX9, kcX9_manyFit, ⟨_, rfl, rfl, by decide⟩, by decide +kernel, by decide⟩
theorem lkX9_167 : JV RX9 167 yX9_isSure cX9_isSure 2 (some .boolean) 9 0 := ⟨kw_in (List.mem_of_getElem? (i := 1254) (by decide +kernel)) (by decide +kernel), kw_in (List.mem_of_getElem? (i := 1256) (by decide +kernel)) (by decide +kernel), kw_in (List.mem_of_getElem? (i := 40) (by decide +kernel)) (by decide +kernel), inRX9, kcX9_isSure, ⟨_, rfl, rfl, by decide⟩, by decide +kernel, by decide⟩
theorem lkX9_171 : JV RX9 171 yX9_findMore cX9_findMore 4 none 9 2 := ⟨kw_in (List.mem_of_getElem? (i := 1270) (by decide +kernel)) (by decide +kernel), kw_in (List.mem_of_getElem? (i := 1272) (by decide +kernel)) (by decide +kernel), kw_in (List.mem_of_getElem? (i := 41) (by decide +kernel)) (by decide +kernel), inRX9, kcX9_findMore, ⟨_, rfl, rfl, by decide⟩, by decide +kernel, by decide⟩
theorem lkX9_175 : JS RX9 175 yX9_off cX9_off 2 (some .int) 2 := ⟨kw_in (List.mem_of_getElem? (i := 1294) (by decide +kernel)) (by decide +kernel), kw_in (List.mem_of_getElem? (i := 1295) (by decide +kernel)) (by decide +kernel), inRX9, kcX9_off, by decide +kernel, by decide⟩
theorem lkX9_178 : JS RX9 178 yX9_isSheet cX9_isSheet 1 (some .boolean) 1 := ⟨kw_in (List.mem_of_getElem? (i := 1286) (by decide +kernel)) (by decide +kernel), kw_in (List.mem_of_getElem? (i := 1287) (by decide +kernel)) (by decide +kernel), inRX9, kcX9_isSheet, by decide +kernel, by decide⟩
theorem ckX9_181 : Cond.constant RX9 181 (-1000000011) ∈ kw := kw_in (List.mem_of_getElem? (i := 1289) (by decide +kernel)) (by decide +kernel)
theorem lkX9_182 : JV RX9 182 yX9_offBy cX9_offBy 6 (some .int) 9 2 := ⟨kw_in (List.mem_of_getElem? (i := 1290) (by decide +kernel)) (by decide +kernel), kw_in (List.mem_of_getElem? (i := 1292) (by decide +kernel)) (by decide +kernel), kw_in (List.mem_of_getElem? (i := 42) (by decide +kernel)) (by decide +kernel), inRX9, kcX9_offBy, ⟨_, rfl, rfl, by decide⟩, by decide +kernel, by decide⟩
theorem lkX9_185 : JV RX9 185 yX9_laysBy cX9_laysBy 2 none 9 0 := ⟨kw_in (List.mem_of_getElem? (i := 1301) (by decide +kernel)) (by decide +kernel), kw_in (List.mem_of_getElem? (i := 1303) (by decide +kernel)) (by decide +kernel), kw_in (List.mem_of_getElem? (i := 43) (by decide +kernel)) (by decide +kernel), inRX9, kcX9_laysBy, ⟨_, rfl, rfl, by decide⟩, by decide +kernel, by decide⟩
theorem lkX9_188 : JV RX9 188 yX9_laysBack cX9_laysBack 2 none 9 0 := ⟨kw_in (List.mem_of_getElem? (i := 1305) (by decide +kernel)) (by decide +kernel), kw_in (List.mem_of_getElem? (i := 1307) (by decide +kernel)) (by decide +kernel), kw_in (List.mem_of_getElem? (i := 44) (by decide +kernel)) (by decide +kernel), inRX9, kcX9_laysBack, ⟨_, rfl, rfl, by decide⟩, by decide +kernel, by decide⟩
theorem flX9_191 : Cond.fieldLink RX9 191 RX9 (TX9 15).2.1 (TX9 15).2.2.1 ∈ kw := kw_in (List.mem_of_getElem? (i := 1002) (by decide +kernel)) (by decide +kernel)
theorem gfX9_191 {g : Cx} {cc : ByteArray} {nL : Nat} {ret : Option FieldType} {nm : String} {d kc ks rk rn pc : Nat} {lv : List (Option Value)} {st : List Value} {w : Wd} {Q : Option Value → Wd → Prop} {a : Nat} (hd : decode cc pc = .ok (.getfield 191, 3)) (hs : jK w a 9 0) (K : RR g RX9 cc nL ret nm d kc ks rk rn (pc + 3) lv (.int (wI w a 15) :: st) w Q) : RR g RX9 cc nL ret nm d kc ks rk rn pc lv (.ref (gb g + a) :: st) w Q :=
  jr_get (ci := 9) (k := 15) (C := RX9) (T := TX9) (N := 32) flX9_191 huX9 rfl (by decide) (by decide) rfl hs rfl hd K
theorem pfX9_191 {g : Cx} {cc : ByteArray} {nL : Nat} {ret : Option FieldType} {nm : String} {d kc ks rk rn pc : Nat} {lv : List (Option Value)} {st : List Value} {w : Wd} {Q : Option Value → Wd → Prop} {a : Nat} {x : Int32} (hd : decode cc pc = .ok (.putfield 191, 3)) (hs : jK w a 9 0) (K : RR g RX9 cc nL ret nm d kc ks rk rn (pc + 3) lv st (sR w a (upd (wI w a) 15 x)) Q) : RR g RX9 cc nL ret nm d kc ks rk rn pc lv (.int x :: .ref (gb g + a) :: st) w Q :=
  jr_put (ci := 9) (k := 15) (C := RX9) (T := TX9) (N := 32) (ty := .int) (ty0 := tyX9) (w' := sR w a (upd (wI w a) 15 x)) flX9_191 huX9 rfl (by decide) (by decide) rfl tyX9_ok nmX9 (by decide +kernel) rfl rfl (Or.inl rfl) hs (fun _ _ => Nat.le_of_ble_eq_true rfl) rfl (by rw [cE_obj (hs.sR _ _) (by decide), wI_sR_s]; rfl) (fun i hi => cE_sR_o hi) hd K
theorem ckX9_195 : Cond.constantLong RX9 195 (97) ∈ kw := kw_in (List.mem_of_getElem? (i := 1345) (by decide +kernel)) (by decide +kernel)
theorem ckX9_197 : Cond.constantLong RX9 197 (122) ∈ kw := kw_in (List.mem_of_getElem? (i := 1346) (by decide +kernel)) (by decide +kernel)
theorem ckX9_199 : Cond.constantLong RX9 199 (48) ∈ kw := kw_in (List.mem_of_getElem? (i := 1351) (by decide +kernel)) (by decide +kernel)
theorem ckX9_201 : Cond.constantLong RX9 201 (57) ∈ kw := kw_in (List.mem_of_getElem? (i := 1352) (by decide +kernel)) (by decide +kernel)
theorem flX9_203 : Cond.fieldLink RX9 203 RX9 (TX9 17).2.1 (TX9 17).2.2.1 ∈ kw := kw_in (List.mem_of_getElem? (i := 1004) (by decide +kernel)) (by decide +kernel)
theorem gfX9_203 {g : Cx} {cc : ByteArray} {nL : Nat} {ret : Option FieldType} {nm : String} {d kc ks rk rn pc : Nat} {lv : List (Option Value)} {st : List Value} {w : Wd} {Q : Option Value → Wd → Prop} {a : Nat} (hd : decode cc pc = .ok (.getfield 203, 3)) (hs : jK w a 9 0) (K : RR g RX9 cc nL ret nm d kc ks rk rn (pc + 3) lv (.int (wI w a 17) :: st) w Q) : RR g RX9 cc nL ret nm d kc ks rk rn pc lv (.ref (gb g + a) :: st) w Q :=
  jr_get (ci := 9) (k := 17) (C := RX9) (T := TX9) (N := 32) flX9_203 huX9 rfl (by decide) (by decide) rfl hs rfl hd K
theorem pfX9_203 {g : Cx} {cc : ByteArray} {nL : Nat} {ret : Option FieldType} {nm : String} {d kc ks rk rn pc : Nat} {lv : List (Option Value)} {st : List Value} {w : Wd} {Q : Option Value → Wd → Prop} {a : Nat} {x : Int32} (hd : decode cc pc = .ok (.putfield 203, 3)) (hs : jK w a 9 0) (K : RR g RX9 cc nL ret nm d kc ks rk rn (pc + 3) lv st (sR w a (upd (wI w a) 17 x)) Q) : RR g RX9 cc nL ret nm d kc ks rk rn pc lv (.int x :: .ref (gb g + a) :: st) w Q :=
  jr_put (ci := 9) (k := 17) (C := RX9) (T := TX9) (N := 32) (ty := .int) (ty0 := tyX9) (w' := sR w a (upd (wI w a) 17 x)) flX9_203 huX9 rfl (by decide) (by decide) rfl tyX9_ok nmX9 (by decide +kernel) rfl rfl (Or.inl rfl) hs (fun _ _ => Nat.le_of_ble_eq_true rfl) rfl (by rw [cE_obj (hs.sR _ _) (by decide), wI_sR_s]; rfl) (fun i hi => cE_sR_o hi) hd K
theorem flX9_206 : Cond.fieldLink RX9 206 RX9 (TX9 18).2.1 (TX9 18).2.2.1 ∈ kw := kw_in (List.mem_of_getElem? (i := 1005) (by decide +kernel)) (by decide +kernel)
theorem gfX9_206 {g : Cx} {cc : ByteArray} {nL : Nat} {ret : Option FieldType} {nm : String} {d kc ks rk rn pc : Nat} {lv : List (Option Value)} {st : List Value} {w : Wd} {Q : Option Value → Wd → Prop} {a : Nat} (hd : decode cc pc = .ok (.getfield 206, 3)) (hs : jK w a 9 0) (K : RR g RX9 cc nL ret nm d kc ks rk rn (pc + 3) lv (.int (wI w a 18) :: st) w Q) : RR g RX9 cc nL ret nm d kc ks rk rn pc lv (.ref (gb g + a) :: st) w Q :=
  jr_get (ci := 9) (k := 18) (C := RX9) (T := TX9) (N := 32) flX9_206 huX9 rfl (by decide) (by decide) rfl hs rfl hd K
theorem pfX9_206 {g : Cx} {cc : ByteArray} {nL : Nat} {ret : Option FieldType} {nm : String} {d kc ks rk rn pc : Nat} {lv : List (Option Value)} {st : List Value} {w : Wd} {Q : Option Value → Wd → Prop} {a : Nat} {x : Int32} (hd : decode cc pc = .ok (.putfield 206, 3)) (hs : jK w a 9 0) (K : RR g RX9 cc nL ret nm d kc ks rk rn (pc + 3) lv st (sR w a (upd (wI w a) 18 x)) Q) : RR g RX9 cc nL ret nm d kc ks rk rn pc lv (.int x :: .ref (gb g + a) :: st) w Q :=
  jr_put (ci := 9) (k := 18) (C := RX9) (T := TX9) (N := 32) (ty := .int) (ty0 := tyX9) (w' := sR w a (upd (wI w a) 18 x)) flX9_206 huX9 rfl (by decide) (by decide) rfl tyX9_ok nmX9 (by decide +kernel) rfl rfl (Or.inl rfl) hs (fun _ _ => Nat.le_of_ble_eq_true rfl) rfl (by rw [cE_obj (hs.sR _ _) (by decide), wI_sR_s]; rfl) (fun i hi => cE_sR_o hi) hd K
theorem flX9_209 : Cond.fieldLink RX9 209 RX9 (TX9 16).2.1 (TX9 16).2.2.1 ∈ kw := kw_in (List.mem_of_getElem? (i := 1003) (by decide +kernel)) (by decide +kernel)
theorem gfX9_209 {g : Cx} {cc : ByteArray} {nL : Nat} {ret : Option FieldType} {nm : String} {d kc ks rk rn pc : Nat} {lv : List (Option Value)} {st : List Value} {w : Wd} {Q : Option Value → Wd → Prop} {a : Nat} (hd : decode cc pc = .ok (.getfield 209, 3)) (hs : jK w a 9 0) (K : RR g RX9 cc nL ret nm d kc ks rk rn (pc + 3) lv (.int (wI w a 16) :: st) w Q) : RR g RX9 cc nL ret nm d kc ks rk rn pc lv (.ref (gb g + a) :: st) w Q :=
  jr_get (ci := 9) (k := 16) (C := RX9) (T := TX9) (N := 32) flX9_209 huX9 rfl (by decide) (by decide) rfl hs rfl hd K
theorem pfX9_209 {g : Cx} {cc : ByteArray} {nL : Nat} {ret : Option FieldType} {nm : String} {d kc ks rk rn pc : Nat} {lv : List (Option Value)} {st : List Value} {w : Wd} {Q : Option Value → Wd → Prop} {a : Nat} {x : Int32} (hd : decode cc pc = .ok (.putfield 209, 3)) (hs : jK w a 9 0) (K : RR g RX9 cc nL ret nm d kc ks rk rn (pc + 3) lv st (sR w a (upd (wI w a) 16 x)) Q) : RR g RX9 cc nL ret nm d kc ks rk rn pc lv (.int x :: .ref (gb g + a) :: st) w Q :=
  jr_put (ci := 9) (k := 16) (C := RX9) (T := TX9) (N := 32) (ty := .int) (ty0 := tyX9) (w' := sR w a (upd (wI w a) 16 x)) flX9_209 huX9 rfl (by decide) (by decide) rfl tyX9_ok nmX9 (by decide +kernel) rfl rfl (Or.inl rfl) hs (fun _ _ => Nat.le_of_ble_eq_true rfl) rfl (by rw [cE_obj (hs.sR _ _) (by decide), wI_sR_s]; rfl) (fun i hi => cE_sR_o hi) hd K
theorem lkX9_212 : JV RX9 212 yX9_isLetter cX9_isLetter 2 (some .boolean) 9 1 := ⟨kw_in (List.mem_of_getElem? (i := 1341) (by decide +kernel)) (by decide +kernel), kw_in (List.mem_of_getElem? (i := 1343) (by decide +kernel)) (by decide +kernel), kw_in (List.mem_of_getElem? (i := 47) (by decide +kernel)) (by decide +kernel), inRX9, kcX9_isLetter, ⟨_, rfl, rfl, by decide⟩, by decide +kernel, by decide⟩
theorem flX9_215 : Cond.fieldLink RX9 215 RX9 (TX9 20).2.1 (TX9 20).2.2.1 ∈ kw := kw_in (List.mem_of_getElem? (i := 1007) (by decide +kernel)) (by decide +kernel)
theorem gfX9_215 {g : Cx} {cc : ByteArray} {nL : Nat} {ret : Option FieldType} {nm : String} {d kc ks rk rn pc : Nat} {lv : List (Option Value)} {st : List Value} {w : Wd} {Q : Option Value → Wd → Prop} {a : Nat} (hd : decode cc pc = .ok (.getfield 215, 3)) (hs : jK w a 9 0) (K : RR g RX9 cc nL ret nm d kc ks rk rn (pc + 3) lv (.int (wI w a 20) :: st) w Q) : RR g RX9 cc nL ret nm d kc ks rk rn pc lv (.ref (gb g + a) :: st) w Q :=
  jr_get (ci := 9) (k := 20) (C := RX9) (T := TX9) (N := 32) flX9_215 huX9 rfl (by decide) (by decide) rfl hs rfl hd K
theorem pfX9_215 {g : Cx} {cc : ByteArray} {nL : Nat} {ret : Option FieldType} {nm : String} {d kc ks rk rn pc : Nat} {lv : List (Option Value)} {st : List Value} {w : Wd} {Q : Option Value → Wd → Prop} {a : Nat} {x : Int32} (hd : decode cc pc = .ok (.putfield 215, 3)) (hs : jK w a 9 0) (K : RR g RX9 cc nL ret nm d kc ks rk rn (pc + 3) lv st (sR w a (upd (wI w a) 20 x)) Q) : RR g RX9 cc nL ret nm d kc ks rk rn pc lv (.int x :: .ref (gb g + a) :: st) w Q :=
  jr_put (ci := 9) (k := 20) (C := RX9) (T := TX9) (N := 32) (ty := .int) (ty0 := tyX9) (w' := sR w a (upd (wI w a) 20 x)) flX9_215 huX9 rfl (by decide) (by decide) rfl tyX9_ok nmX9 (by decide +kernel) rfl rfl (Or.inl rfl) hs (fun _ _ => Nat.le_of_ble_eq_true rfl) rfl (by rw [cE_obj (hs.sR _ _) (by decide), wI_sR_s]; rfl) (fun i hi => cE_sR_o hi) hd K
theorem lkX9_218 : JV RX9 218 yX9_isDigit cX9_isDigit 2 (some .boolean) 9 1 := ⟨kw_in (List.mem_of_getElem? (i := 1347) (by decide +kernel)) (by decide +kernel), kw_in (List.mem_of_getElem? (i := 1349) (by decide +kernel)) (by decide +kernel), kw_in (List.mem_of_getElem? (i := 48) (by decide +kernel)) (by decide +kernel), inRX9, kcX9_isDigit, ⟨_, rfl, rfl, by decide⟩, by decide +kernel, by decide⟩
theorem flX9_221 : Cond.fieldLink RX9 221 RX9 (TX9 19).2.1 (TX9 19).2.2.1 ∈ kw := kw_in (List.mem_of_getElem? (i := 1006) (by decide +kernel)) (by decide +kernel)
theorem gfX9_221 {g : Cx} {cc : ByteArray} {nL : Nat} {ret : Option FieldType} {nm : String} {d kc ks rk rn pc : Nat} {lv : List (Option Value)} {st : List Value} {w : Wd} {Q : Option Value → Wd → Prop} {a : Nat} (hd : decode cc pc = .ok (.getfield 221, 3)) (hs : jK w a 9 0) (K : RR g RX9 cc nL ret nm d kc ks rk rn (pc + 3) lv (.int (wI w a 19) :: st) w Q) : RR g RX9 cc nL ret nm d kc ks rk rn pc lv (.ref (gb g + a) :: st) w Q :=
  jr_get (ci := 9) (k := 19) (C := RX9) (T := TX9) (N := 32) flX9_221 huX9 rfl (by decide) (by decide) rfl hs rfl hd K
theorem pfX9_221 {g : Cx} {cc : ByteArray} {nL : Nat} {ret : Option FieldType} {nm : String} {d kc ks rk rn pc : Nat} {lv : List (Option Value)} {st : List Value} {w : Wd} {Q : Option Value → Wd → Prop} {a : Nat} {x : Int32} (hd : decode cc pc = .ok (.putfield 221, 3)) (hs : jK w a 9 0) (K : RR g RX9 cc nL ret nm d kc ks rk rn (pc + 3) lv st (sR w a (upd (wI w a) 19 x)) Q) : RR g RX9 cc nL ret nm d kc ks rk rn pc lv (.int x :: .ref (gb g + a) :: st) w Q :=
  jr_put (ci := 9) (k := 19) (C := RX9) (T := TX9) (N := 32) (ty := .int) (ty0 := tyX9) (w' := sR w a (upd (wI w a) 19 x)) flX9_221 huX9 rfl (by decide) (by decide) rfl tyX9_ok nmX9 (by decide +kernel) rfl rfl (Or.inl rfl) hs (fun _ _ => Nat.le_of_ble_eq_true rfl) rfl (by rw [cE_obj (hs.sR _ _) (by decide), wI_sR_s]; rfl) (fun i hi => cE_sR_o hi) hd K
theorem lkX9_224 : JV RX9 224 yX9_isLong cX9_isLong 8 (some .boolean) 9 6 := ⟨kw_in (List.mem_of_getElem? (i := 1357) (by decide +kernel)) (by decide +kernel), kw_in (List.mem_of_getElem? (i := 1359) (by decide +kernel)) (by decide +kernel), kw_in (List.mem_of_getElem? (i := 50) (by decide +kernel)) (by decide +kernel), inRX9, kcX9_isLong, ⟨_, rfl, rfl, by decide⟩, by decide +kernel, by decide⟩
theorem lkX9_228 : JV RX9 228 yX9_isWordAt cX9_isWordAt 6 (some .boolean) 9 4 := ⟨kw_in (List.mem_of_getElem? (i := 1361) (by decide +kernel)) (by decide +kernel), kw_in (List.mem_of_getElem? (i := 1363) (by decide +kernel)) (by decide +kernel), kw_in (List.mem_of_getElem? (i := 51) (by decide +kernel)) (by decide +kernel), inRX9, kcX9_isWordAt, ⟨_, rfl, rfl, by decide⟩, by decide +kernel, by decide⟩
theorem flX9_232 : Cond.fieldLink RX9 232 RX9 (TX9 24).2.1 (TX9 24).2.2.1 ∈ kw := kw_in (List.mem_of_getElem? (i := 1011) (by decide +kernel)) (by decide +kernel)
theorem gfX9_232 {g : Cx} {cc : ByteArray} {nL : Nat} {ret : Option FieldType} {nm : String} {d kc ks rk rn pc : Nat} {lv : List (Option Value)} {st : List Value} {w : Wd} {Q : Option Value → Wd → Prop} {a : Nat} (hd : decode cc pc = .ok (.getfield 232, 3)) (hs : jK w a 9 0) (K : RR g RX9 cc nL ret nm d kc ks rk rn (pc + 3) lv (.int (wI w a 24) :: st) w Q) : RR g RX9 cc nL ret nm d kc ks rk rn pc lv (.ref (gb g + a) :: st) w Q :=
  jr_get (ci := 9) (k := 24) (C := RX9) (T := TX9) (N := 32) flX9_232 huX9 rfl (by decide) (by decide) rfl hs rfl hd K
theorem pfX9_232 {g : Cx} {cc : ByteArray} {nL : Nat} {ret : Option FieldType} {nm : String} {d kc ks rk rn pc : Nat} {lv : List (Option Value)} {st : List Value} {w : Wd} {Q : Option Value → Wd → Prop} {a : Nat} {x : Int32} (hd : decode cc pc = .ok (.putfield 232, 3)) (hs : jK w a 9 0) (K : RR g RX9 cc nL ret nm d kc ks rk rn (pc + 3) lv st (sR w a (upd (wI w a) 24 x)) Q) : RR g RX9 cc nL ret nm d kc ks rk rn pc lv (.int x :: .ref (gb g + a) :: st) w Q :=
  jr_put (ci := 9) (k := 24) (C := RX9) (T := TX9) (N := 32) (ty := .int) (ty0 := tyX9) (w' := sR w a (upd (wI w a) 24 x)) flX9_232 huX9 rfl (by decide) (by decide) rfl tyX9_ok nmX9 (by decide +kernel) rfl rfl (Or.inl rfl) hs (fun _ _ => Nat.le_of_ble_eq_true rfl) rfl (by rw [cE_obj (hs.sR _ _) (by decide), wI_sR_s]; rfl) (fun i hi => cE_sR_o hi) hd K
theorem flX9_235 : Cond.fieldLink RX9 235 RX9 (TX9 23).2.1 (TX9 23).2.2.1 ∈ kw := kw_in (List.mem_of_getElem? (i := 1010) (by decide +kernel)) (by decide +kernel)
theorem gfX9_235 {g : Cx} {cc : ByteArray} {nL : Nat} {ret : Option FieldType} {nm : String} {d kc ks rk rn pc : Nat} {lv : List (Option Value)} {st : List Value} {w : Wd} {Q : Option Value → Wd → Prop} {a : Nat} (hd : decode cc pc = .ok (.getfield 235, 3)) (hs : jK w a 9 0) (K : RR g RX9 cc nL ret nm d kc ks rk rn (pc + 3) lv (.int (wI w a 23) :: st) w Q) : RR g RX9 cc nL ret nm d kc ks rk rn pc lv (.ref (gb g + a) :: st) w Q :=
  jr_get (ci := 9) (k := 23) (C := RX9) (T := TX9) (N := 32) flX9_235 huX9 rfl (by decide) (by decide) rfl hs rfl hd K
theorem pfX9_235 {g : Cx} {cc : ByteArray} {nL : Nat} {ret : Option FieldType} {nm : String} {d kc ks rk rn pc : Nat} {lv : List (Option Value)} {st : List Value} {w : Wd} {Q : Option Value → Wd → Prop} {a : Nat} {x : Int32} (hd : decode cc pc = .ok (.putfield 235, 3)) (hs : jK w a 9 0) (K : RR g RX9 cc nL ret nm d kc ks rk rn (pc + 3) lv st (sR w a (upd (wI w a) 23 x)) Q) : RR g RX9 cc nL ret nm d kc ks rk rn pc lv (.int x :: .ref (gb g + a) :: st) w Q :=
  jr_put (ci := 9) (k := 23) (C := RX9) (T := TX9) (N := 32) (ty := .int) (ty0 := tyX9) (w' := sR w a (upd (wI w a) 23 x)) flX9_235 huX9 rfl (by decide) (by decide) rfl tyX9_ok nmX9 (by decide +kernel) rfl rfl (Or.inl rfl) hs (fun _ _ => Nat.le_of_ble_eq_true rfl) rfl (by rw [cE_obj (hs.sR _ _) (by decide), wI_sR_s]; rfl) (fun i hi => cE_sR_o hi) hd K
theorem lkX9_238 : JV RX9 238 yX9_both cX9_both 2 (some .boolean) 9 1 := ⟨kw_in (List.mem_of_getElem? (i := 1369) (by decide +kernel)) (by decide +kernel), kw_in (List.mem_of_getElem? (i := 1371) (by decide +kernel)) (by decide +kernel), kw_in (List.mem_of_getElem? (i := 53) (by decide +kernel)) (by decide +kernel), inRX9, kcX9_both, ⟨_, rfl, rfl, by decide⟩, by decide +kernel, by decide⟩
theorem lkX9_241 : JV RX9 241 yX9_isSign cX9_isSign 2 (some .boolean) 9 1 := ⟨kw_in (List.mem_of_getElem? (i := 1396) (by decide +kernel)) (by decide +kernel), kw_in (List.mem_of_getElem? (i := 1398) (by decide +kernel)) (by decide +kernel), kw_in (List.mem_of_getElem? (i := 59) (by decide +kernel)) (by decide +kernel), inRX9, kcX9_isSign, ⟨_, rfl, rfl, by decide⟩, by decide +kernel, by decide⟩
theorem lkX9_244 : JV RX9 244 yX9_nextToken cX9_nextToken 3 none 9 0 := ⟨kw_in (List.mem_of_getElem? (i := 1337) (by decide +kernel)) (by decide +kernel), kw_in (List.mem_of_getElem? (i := 1339) (by decide +kernel)) (by decide +kernel), kw_in (List.mem_of_getElem? (i := 46) (by decide +kernel)) (by decide +kernel), inRX9, kcX9_nextToken, ⟨_, rfl, rfl, by decide⟩, by decide +kernel, by decide⟩
theorem lkX9_247 : JV RX9 247 yX9_step cX9_step 3 none 9 2 := ⟨kw_in (List.mem_of_getElem? (i := 1389) (by decide +kernel)) (by decide +kernel), kw_in (List.mem_of_getElem? (i := 1391) (by decide +kernel)) (by decide +kernel), kw_in (List.mem_of_getElem? (i := 58) (by decide +kernel)) (by decide +kernel), inRX9, kcX9_step, ⟨_, rfl, rfl, by decide⟩, by decide +kernel, by decide⟩
theorem lkX9_250 : JV RX9 250 yX9_test cX9_test 3 (some .boolean) 9 1 := ⟨kw_in (List.mem_of_getElem? (i := 1373) (by decide +kernel)) (by decide +kernel), kw_in (List.mem_of_getElem? (i := 1375) (by decide +kernel)) (by decide +kernel), kw_in (List.mem_of_getElem? (i := 54) (by decide +kernel)) (by decide +kernel), inRX9, kcX9_test, ⟨_, rfl, rfl, by decide⟩, by decide +kernel, by decide⟩
theorem lkX9_253 : JV RX9 253 yX9_sum cX9_sum 3 (some .boolean) 9 1 := ⟨kw_in (List.mem_of_getElem? (i := 1377) (by decide +kernel)) (by decide +kernel), kw_in (List.mem_of_getElem? (i := 1379) (by decide +kernel)) (by decide +kernel), kw_in (List.mem_of_getElem? (i := 55) (by decide +kernel)) (by decide +kernel), inRX9, kcX9_sum, ⟨_, rfl, rfl, by decide⟩, by decide +kernel, by decide⟩
theorem lkX9_256 : JV RX9 256 yX9_term cX9_term 3 (some .boolean) 9 1 := ⟨kw_in (List.mem_of_getElem? (i := 1381) (by decide +kernel)) (by decide +kernel), kw_in (List.mem_of_getElem? (i := 1383) (by decide +kernel)) (by decide +kernel), kw_in (List.mem_of_getElem? (i := 56) (by decide +kernel)) (by decide +kernel), inRX9, kcX9_term, ⟨_, rfl, rfl, by decide⟩, by decide +kernel, by decide⟩
theorem lkX9_259 : JV RX9 259 yX9_part0 cX9_part0 2 (some .boolean) 9 1 := ⟨kw_in (List.mem_of_getElem? (i := 1385) (by decide +kernel)) (by decide +kernel), kw_in (List.mem_of_getElem? (i := 1387) (by decide +kernel)) (by decide +kernel), kw_in (List.mem_of_getElem? (i := 57) (by decide +kernel)) (by decide +kernel), inRX9, kcX9_part0, ⟨_, rfl, rfl, by decide⟩, by decide +kernel, by decide⟩
theorem flX9_262 : Cond.fieldLink RX9 262 RX9 (TX9 25).2.1 (TX9 25).2.2.1 ∈ kw := kw_in (List.mem_of_getElem? (i := 1012) (by decide +kernel)) (by decide +kernel)
theorem gfX9_262 {g : Cx} {cc : ByteArray} {nL : Nat} {ret : Option FieldType} {nm : String} {d kc ks rk rn pc : Nat} {lv : List (Option Value)} {st : List Value} {w : Wd} {Q : Option Value → Wd → Prop} {a : Nat} (hd : decode cc pc = .ok (.getfield 262, 3)) (hs : jK w a 9 0) (K : RR g RX9 cc nL ret nm d kc ks rk rn (pc + 3) lv (.int (wI w a 25) :: st) w Q) : RR g RX9 cc nL ret nm d kc ks rk rn pc lv (.ref (gb g + a) :: st) w Q :=
  jr_get (ci := 9) (k := 25) (C := RX9) (T := TX9) (N := 32) flX9_262 huX9 rfl (by decide) (by decide) rfl hs rfl hd K
theorem pfX9_262 {g : Cx} {cc : ByteArray} {nL : Nat} {ret : Option FieldType} {nm : String} {d kc ks rk rn pc : Nat} {lv : List (Option Value)} {st : List Value} {w : Wd} {Q : Option Value → Wd → Prop} {a : Nat} {x : Int32} (hd : decode cc pc = .ok (.putfield 262, 3)) (hs : jK w a 9 0) (K : RR g RX9 cc nL ret nm d kc ks rk rn (pc + 3) lv st (sR w a (upd (wI w a) 25 x)) Q) : RR g RX9 cc nL ret nm d kc ks rk rn pc lv (.int x :: .ref (gb g + a) :: st) w Q :=
  jr_put (ci := 9) (k := 25) (C := RX9) (T := TX9) (N := 32) (ty := .int) (ty0 := tyX9) (w' := sR w a (upd (wI w a) 25 x)) flX9_262 huX9 rfl (by decide) (by decide) rfl tyX9_ok nmX9 (by decide +kernel) rfl rfl (Or.inl rfl) hs (fun _ _ => Nat.le_of_ble_eq_true rfl) rfl (by rw [cE_obj (hs.sR _ _) (by decide), wI_sR_s]; rfl) (fun i hi => cE_sR_o hi) hd K
theorem lkX9_265 : JS RX9 265 yX9_isName cX9_isName 2 (some .boolean) 2 := ⟨kw_in (List.mem_of_getElem? (i := 1393) (by decide +kernel)) (by decide +kernel), kw_in (List.mem_of_getElem? (i := 1394) (by decide +kernel)) (by decide +kernel), inRX9, kcX9_isName, by decide +kernel, by decide⟩
theorem flX9_268 : Cond.fieldLink RX9 268 RX9 (TX9 22).2.1 (TX9 22).2.2.1 ∈ kw := kw_in (List.mem_of_getElem? (i := 1009) (by decide +kernel)) (by decide +kernel)
theorem gfX9_268 {g : Cx} {cc : ByteArray} {nL : Nat} {ret : Option FieldType} {nm : String} {d kc ks rk rn pc : Nat} {lv : List (Option Value)} {st : List Value} {w : Wd} {Q : Option Value → Wd → Prop} {a : Nat} (hd : decode cc pc = .ok (.getfield 268, 3)) (hs : jK w a 9 0) (K : RR g RX9 cc nL ret nm d kc ks rk rn (pc + 3) lv (.int (wI w a 22) :: st) w Q) : RR g RX9 cc nL ret nm d kc ks rk rn pc lv (.ref (gb g + a) :: st) w Q :=
  jr_get (ci := 9) (k := 22) (C := RX9) (T := TX9) (N := 32) flX9_268 huX9 rfl (by decide) (by decide) rfl hs rfl hd K
theorem pfX9_268 {g : Cx} {cc : ByteArray} {nL : Nat} {ret : Option FieldType} {nm : String} {d kc ks rk rn pc : Nat} {lv : List (Option Value)} {st : List Value} {w : Wd} {Q : Option Value → Wd → Prop} {a : Nat} {x : Int32} (hd : decode cc pc = .ok (.putfield 268, 3)) (hs : jK w a 9 0) (K : RR g RX9 cc nL ret nm d kc ks rk rn (pc + 3) lv st (sR w a (upd (wI w a) 22 x)) Q) : RR g RX9 cc nL ret nm d kc ks rk rn pc lv (.int x :: .ref (gb g + a) :: st) w Q :=
  jr_put (ci := 9) (k := 22) (C := RX9) (T := TX9) (N := 32) (ty := .int) (ty0 := tyX9) (w' := sR w a (upd (wI w a) 22 x)) flX9_268 huX9 rfl (by decide) (by decide) rfl tyX9_ok nmX9 (by decide +kernel) rfl rfl (Or.inl rfl) hs (fun _ _ => Nat.le_of_ble_eq_true rfl) rfl (by rw [cE_obj (hs.sR _ _) (by decide), wI_sR_s]; rfl) (fun i hi => cE_sR_o hi) hd K
theorem flX9_271 : Cond.fieldLink RX9 271 RX9 (TX9 21).2.1 (TX9 21).2.2.1 ∈ kw := kw_in (List.mem_of_getElem? (i := 1008) (by decide +kernel)) (by decide +kernel)
theorem gfX9_271 {g : Cx} {cc : ByteArray} {nL : Nat} {ret : Option FieldType} {nm : String} {d kc ks rk rn pc : Nat} {lv : List (Option Value)} {st : List Value} {w : Wd} {Q : Option Value → Wd → Prop} {a : Nat} (hd : decode cc pc = .ok (.getfield 271, 3)) (hs : jK w a 9 0) (K : RR g RX9 cc nL ret nm d kc ks rk rn (pc + 3) lv (.int (wI w a 21) :: st) w Q) : RR g RX9 cc nL ret nm d kc ks rk rn pc lv (.ref (gb g + a) :: st) w Q :=
  jr_get (ci := 9) (k := 21) (C := RX9) (T := TX9) (N := 32) flX9_271 huX9 rfl (by decide) (by decide) rfl hs rfl hd K
theorem pfX9_271 {g : Cx} {cc : ByteArray} {nL : Nat} {ret : Option FieldType} {nm : String} {d kc ks rk rn pc : Nat} {lv : List (Option Value)} {st : List Value} {w : Wd} {Q : Option Value → Wd → Prop} {a : Nat} {x : Int32} (hd : decode cc pc = .ok (.putfield 271, 3)) (hs : jK w a 9 0) (K : RR g RX9 cc nL ret nm d kc ks rk rn (pc + 3) lv st (sR w a (upd (wI w a) 21 x)) Q) : RR g RX9 cc nL ret nm d kc ks rk rn pc lv (.int x :: .ref (gb g + a) :: st) w Q :=
  jr_put (ci := 9) (k := 21) (C := RX9) (T := TX9) (N := 32) (ty := .int) (ty0 := tyX9) (w' := sR w a (upd (wI w a) 21 x)) flX9_271 huX9 rfl (by decide) (by decide) rfl tyX9_ok nmX9 (by decide +kernel) rfl rfl (Or.inl rfl) hs (fun _ _ => Nat.le_of_ble_eq_true rfl) rfl (by rw [cE_obj (hs.sR _ _) (by decide), wI_sR_s]; rfl) (fun i hi => cE_sR_o hi) hd K
theorem lkX9_274 : JV RX9 274 yX9_either cX9_either 2 (some .boolean) 9 1 := ⟨kw_in (List.mem_of_getElem? (i := 1365) (by decide +kernel)) (by decide +kernel), kw_in (List.mem_of_getElem? (i := 1367) (by decide +kernel)) (by decide +kernel), kw_in (List.mem_of_getElem? (i := 52) (by decide +kernel)) (by decide +kernel), inRX9, kcX9_either, ⟨_, rfl, rfl, by decide⟩, by decide +kernel, by decide⟩
theorem lkX9_277 : JV RX9 277 yX9_textAt cX9_textAt 2 (some .int) 9 1 := ⟨kw_in (List.mem_of_getElem? (i := 1136) (by decide +kernel)) (by decide +kernel), kw_in (List.mem_of_getElem? (i := 1138) (by decide +kernel)) (by decide +kernel), kw_in (List.mem_of_getElem? (i := 28) (by decide +kernel)) (by decide +kernel), inRX9, kcX9_textAt, ⟨_, rfl, rfl, by decide⟩, by decide +kernel, by decide⟩
theorem lkX9_280 : JV RX9 280 yX9_key cX9_key 1 (some .int) 9 0 := ⟨kw_in (List.mem_of_getElem? (i := 1353) (by decide +kernel)) (by decide +kernel), kw_in (List.mem_of_getElem? (i := 1355) (by decide +kernel)) (by decide +kernel), kw_in (List.mem_of_getElem? (i := 49) (by decide +kernel)) (by decide +kernel), inRX9, kcX9_key, ⟨_, rfl, rfl, by decide⟩, by decide +kernel, by decide⟩
theorem lkX9_283 : JV RX9 283 yX9_parse cX9_parse 3 (some .int) 9 0 := ⟨kw_in (List.mem_of_getElem? (i := 1333) (by decide +kernel)) (by decide +kernel), kw_in (List.mem_of_getElem? (i := 1335) (by decide +kernel)) (by decide +kernel), kw_in (List.mem_of_getElem? (i := 45) (by decide +kernel)) (by decide +kernel), inRX9, kcX9_parse, ⟨_, rfl, rfl, by decide⟩, by decide +kernel, by decide⟩
theorem lkX9_286 : JV RX9 286 yX9_isText cX9_isText 2 (some .boolean) 9 1 := ⟨kw_in (List.mem_of_getElem? (i := 1404) (by decide +kernel)) (by decide +kernel), kw_in (List.mem_of_getElem? (i := 1406) (by decide +kernel)) (by decide +kernel), kw_in (List.mem_of_getElem? (i := 60) (by decide +kernel)) (by decide +kernel), inRX9, kcX9_isText, ⟨_, rfl, rfl, by decide⟩, by decide +kernel, by decide⟩
theorem lkX9_289 : JS RX9 289 yX9_orNone cX9_orNone 1 (some .int) 1 := ⟨kw_in (List.mem_of_getElem? (i := 1412) (by decide +kernel)) (by decide +kernel), kw_in (List.mem_of_getElem? (i := 1413) (by decide +kernel)) (by decide +kernel), inRX9, kcX9_orNone, by decide +kernel, by decide⟩
theorem lkX9_292 : JS RX9 292 yX9_joined cX9_joined 3 (some .int) 3 := ⟨kw_in (List.mem_of_getElem? (i := 1144) (by decide +kernel)) (by decide +kernel), kw_in (List.mem_of_getElem? (i := 1145) (by decide +kernel)) (by decide +kernel), inRX9, kcX9_joined, by decide +kernel, by decide⟩
theorem ckX9_296 : Cond.constantLong RX9 296 (-1) ∈ kw := kw_in (List.mem_of_getElem? (i := 1419) (by decide +kernel)) (by decide +kernel)
theorem ckX9_298 : Cond.constant RX9 298 (-1000000014) ∈ kw := kw_in (List.mem_of_getElem? (i := 1420) (by decide +kernel)) (by decide +kernel)
theorem ckX9_299 : Cond.constant RX9 299 (-1000000013) ∈ kw := kw_in (List.mem_of_getElem? (i := 1425) (by decide +kernel)) (by decide +kernel)
theorem ckX9_300 : Cond.constantLong RX9 300 (-99999) ∈ kw := kw_in (List.mem_of_getElem? (i := 1426) (by decide +kernel)) (by decide +kernel)
theorem ckX9_302 : Cond.constantLong RX9 302 (99999) ∈ kw := kw_in (List.mem_of_getElem? (i := 1427) (by decide +kernel)) (by decide +kernel)
theorem lkX9_304 : JS RX9 304 yX9_within cX9_within 2 (some .int) 2 := ⟨kw_in (List.mem_of_getElem? (i := 1432) (by decide +kernel)) (by decide +kernel), kw_in (List.mem_of_getElem? (i := 1433) (by decide +kernel)) (by decide +kernel), inRX9, kcX9_within, by decide +kernel, by decide⟩
theorem ckX9_307 : Cond.constantLong RX9 307 (4) ∈ kw := kw_in (List.mem_of_getElem? (i := 1450) (by decide +kernel)) (by decide +kernel)
theorem lkX9_309 : JS RX9 309 yX9_isSlot cX9_isSlot 1 (some .boolean) 1 := ⟨kw_in (List.mem_of_getElem? (i := 1447) (by decide +kernel)) (by decide +kernel), kw_in (List.mem_of_getElem? (i := 1448) (by decide +kernel)) (by decide +kernel), inRX9, kcX9_isSlot, by decide +kernel, by decide⟩
theorem ckX9_312 : Cond.constant RX9 312 (-1000000002) ∈ kw := kw_in (List.mem_of_getElem? (i := 1463) (by decide +kernel)) (by decide +kernel)
theorem flX9_313 : Cond.fieldLink RX9 313 RX9 (TX9 30).2.1 (TX9 30).2.2.1 ∈ kw := kw_in (List.mem_of_getElem? (i := 1017) (by decide +kernel)) (by decide +kernel)
theorem gfX9_313 {g : Cx} {cc : ByteArray} {nL : Nat} {ret : Option FieldType} {nm : String} {d kc ks rk rn pc : Nat} {lv : List (Option Value)} {st : List Value} {w : Wd} {Q : Option Value → Wd → Prop} {a : Nat} (hd : decode cc pc = .ok (.getfield 313, 3)) (hs : jK w a 9 0) (K : RR g RX9 cc nL ret nm d kc ks rk rn (pc + 3) lv (.int (wI w a 30) :: st) w Q) : RR g RX9 cc nL ret nm d kc ks rk rn pc lv (.ref (gb g + a) :: st) w Q :=
  jr_get (ci := 9) (k := 30) (C := RX9) (T := TX9) (N := 32) flX9_313 huX9 rfl (by decide) (by decide) rfl hs rfl hd K
theorem pfX9_313 {g : Cx} {cc : ByteArray} {nL : Nat} {ret : Option FieldType} {nm : String} {d kc ks rk rn pc : Nat} {lv : List (Option Value)} {st : List Value} {w : Wd} {Q : Option Value → Wd → Prop} {a : Nat} {x : Int32} (hd : decode cc pc = .ok (.putfield 313, 3)) (hs : jK w a 9 0) (K : RR g RX9 cc nL ret nm d kc ks rk rn (pc + 3) lv st (sR w a (upd (wI w a) 30 x)) Q) : RR g RX9 cc nL ret nm d kc ks rk rn pc lv (.int x :: .ref (gb g + a) :: st) w Q :=
  jr_put (ci := 9) (k := 30) (C := RX9) (T := TX9) (N := 32) (ty := .int) (ty0 := tyX9) (w' := sR w a (upd (wI w a) 30 x)) flX9_313 huX9 rfl (by decide) (by decide) rfl tyX9_ok nmX9 (by decide +kernel) rfl rfl (Or.inl rfl) hs (fun _ _ => Nat.le_of_ble_eq_true rfl) rfl (by rw [cE_obj (hs.sR _ _) (by decide), wI_sR_s]; rfl) (fun i hi => cE_sR_o hi) hd K
theorem ckX9_316 : Cond.constantLong RX9 316 (30) ∈ kw := kw_in (List.mem_of_getElem? (i := 1472) (by decide +kernel)) (by decide +kernel)
theorem flX9_318 : Cond.fieldLink RX9 318 RX9 (TX9 3).2.1 (TX9 3).2.2.1 ∈ kw := kw_in (List.mem_of_getElem? (i := 990) (by decide +kernel)) (by decide +kernel)
theorem gfX9_318 {g : Cx} {cc : ByteArray} {nL : Nat} {ret : Option FieldType} {nm : String} {d kc ks rk rn pc : Nat} {lv : List (Option Value)} {st : List Value} {w : Wd} {Q : Option Value → Wd → Prop} {a : Nat} (hd : decode cc pc = .ok (.getfield 318, 3)) (hs : jK w a 9 0) (K : RR g RX9 cc nL ret nm d kc ks rk rn (pc + 3) lv (.int (wI w a 3) :: st) w Q) : RR g RX9 cc nL ret nm d kc ks rk rn pc lv (.ref (gb g + a) :: st) w Q :=
  jr_get (ci := 9) (k := 3) (C := RX9) (T := TX9) (N := 32) flX9_318 huX9 rfl (by decide) (by decide) rfl hs rfl hd K
theorem pfX9_318 {g : Cx} {cc : ByteArray} {nL : Nat} {ret : Option FieldType} {nm : String} {d kc ks rk rn pc : Nat} {lv : List (Option Value)} {st : List Value} {w : Wd} {Q : Option Value → Wd → Prop} {a : Nat} {x : Int32} (hz : narrow .boolean (.int x) = .int x) (hf : fits .boolean (.int x) = true) (hd : decode cc pc = .ok (.putfield 318, 3)) (hs : jK w a 9 0) (K : RR g RX9 cc nL ret nm d kc ks rk rn (pc + 3) lv st (sR w a (upd (wI w a) 3 x)) Q) : RR g RX9 cc nL ret nm d kc ks rk rn pc lv (.int x :: .ref (gb g + a) :: st) w Q :=
  jr_put (ci := 9) (k := 3) (C := RX9) (T := TX9) (N := 32) (ty := .boolean) (ty0 := tyX9) (w' := sR w a (upd (wI w a) 3 x)) flX9_318 huX9 rfl (by decide) (by decide) rfl tyX9_ok nmX9 (by decide +kernel) hz hf (Or.inl rfl) hs (fun _ _ => Nat.le_of_ble_eq_true rfl) rfl (by rw [cE_obj (hs.sR _ _) (by decide), wI_sR_s]; rfl) (fun i hi => cE_sR_o hi) hd K
theorem lkX9_322 : JV RX9 322 yX9_setAside cX9_setAside 4 none 9 2 := ⟨kw_in (List.mem_of_getElem? (i := 1473) (by decide +kernel)) (by decide +kernel), kw_in (List.mem_of_getElem? (i := 1475) (by decide +kernel)) (by decide +kernel), kw_in (List.mem_of_getElem? (i := 61) (by decide +kernel)) (by decide +kernel), inRX9, kcX9_setAside, ⟨_, rfl, rfl, by decide⟩, by decide +kernel, by decide⟩
end
