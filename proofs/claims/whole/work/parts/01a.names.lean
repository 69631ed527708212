-- ===== PART A: goes FIRST, ahead of the names: the tables' words, and 'selects' of the private methods out of them =====
/-- a private method of a class that the tables say can be made, by its rows of tables_1 -/
def lw_okq (q : MethodName × Nat) : Prop := (q.1.cls ≠ "java/lang/invoke/MethodHandle" ∧ q.1.cls ≠ "java/lang/invoke/VarHandle") ∧ Cond.instantiable q.1.cls q.2 ∈ tables_1 ∧ Cond.privateMethod q.1 ∈ tables_1 ∧ Cond.instanceMethod q.1 ∈ tables_1
theorem lw_p0 : lw_okq (⟨"LockedAtDusk$Reader", "readClause", "()Z"⟩, 4) := ⟨⟨by decide +kernel, by decide +kernel⟩, List.mem_of_getElem? (i := 217) (by decide +kernel), List.mem_of_getElem? (i := 459) (by decide +kernel), List.mem_of_getElem? (i := 460) (by decide +kernel)⟩
theorem lw_p1 : lw_okq (⟨"LockedAtDusk$Reader", "isNext", "(C)Z"⟩, 4) := ⟨⟨by decide +kernel, by decide +kernel⟩, List.mem_of_getElem? (i := 217) (by decide +kernel), List.mem_of_getElem? (i := 463) (by decide +kernel), List.mem_of_getElem? (i := 464) (by decide +kernel)⟩
theorem lw_p2 : lw_okq (⟨"LockedAtDusk$Reader", "readWord", "(Ljava/lang/String;)Z"⟩, 4) := ⟨⟨by decide +kernel, by decide +kernel⟩, List.mem_of_getElem? (i := 217) (by decide +kernel), List.mem_of_getElem? (i := 471) (by decide +kernel), List.mem_of_getElem? (i := 472) (by decide +kernel)⟩
theorem lw_p3 : lw_okq (⟨"LockedAtDusk$Reader", "skip", "(C)Z"⟩, 4) := ⟨⟨by decide +kernel, by decide +kernel⟩, List.mem_of_getElem? (i := 217) (by decide +kernel), List.mem_of_getElem? (i := 523) (by decide +kernel), List.mem_of_getElem? (i := 524) (by decide +kernel)⟩
theorem lw_p4 : lw_okq (⟨"LockedAtDusk$Reader", "readNumber", "()I"⟩, 4) := ⟨⟨by decide +kernel, by decide +kernel⟩, List.mem_of_getElem? (i := 217) (by decide +kernel), List.mem_of_getElem? (i := 527) (by decide +kernel), List.mem_of_getElem? (i := 528) (by decide +kernel)⟩
theorem lw_p5 : lw_okq (⟨"LockedAtDusk$Reader", "readEither", "(I)Z"⟩, 4) := ⟨⟨by decide +kernel, by decide +kernel⟩, List.mem_of_getElem? (i := 217) (by decide +kernel), List.mem_of_getElem? (i := 535) (by decide +kernel), List.mem_of_getElem? (i := 536) (by decide +kernel)⟩
theorem lw_p6 : lw_okq (⟨"LockedAtDusk$Reader", "readBoth", "(I)Z"⟩, 4) := ⟨⟨by decide +kernel, by decide +kernel⟩, List.mem_of_getElem? (i := 217) (by decide +kernel), List.mem_of_getElem? (i := 539) (by decide +kernel), List.mem_of_getElem? (i := 540) (by decide +kernel)⟩
theorem lw_p7 : lw_okq (⟨"LockedAtDusk$Reader", "readPart", "(I)Z"⟩, 4) := ⟨⟨by decide +kernel, by decide +kernel⟩, List.mem_of_getElem? (i := 217) (by decide +kernel), List.mem_of_getElem? (i := 543) (by decide +kernel), List.mem_of_getElem? (i := 544) (by decide +kernel)⟩
theorem lw_p8 : lw_okq (⟨"LockedAtDusk$Reader", "readTest", "()Z"⟩, 4) := ⟨⟨by decide +kernel, by decide +kernel⟩, List.mem_of_getElem? (i := 217) (by decide +kernel), List.mem_of_getElem? (i := 547) (by decide +kernel), List.mem_of_getElem? (i := 548) (by decide +kernel)⟩
theorem lw_p9 : lw_okq (⟨"LockedAtDusk$Reader", "readOneOf", "(Ljava/lang/String;)I"⟩, 4) := ⟨⟨by decide +kernel, by decide +kernel⟩, List.mem_of_getElem? (i := 217) (by decide +kernel), List.mem_of_getElem? (i := 552) (by decide +kernel), List.mem_of_getElem? (i := 553) (by decide +kernel)⟩
theorem lw_p10 : lw_okq (⟨"LockedAtDusk$Reader", "readBehindNot", "(I)Z"⟩, 4) := ⟨⟨by decide +kernel, by decide +kernel⟩, List.mem_of_getElem? (i := 217) (by decide +kernel), List.mem_of_getElem? (i := 616) (by decide +kernel), List.mem_of_getElem? (i := 617) (by decide +kernel)⟩
theorem lw_p11 : lw_okq (⟨"LockedAtDusk$Park", "walk", "(LLockedAtDusk$Person;)V"⟩, 15) := ⟨⟨by decide +kernel, by decide +kernel⟩, List.mem_of_getElem? (i := 28) (by decide +kernel), List.mem_of_getElem? (i := 641) (by decide +kernel), List.mem_of_getElem? (i := 642) (by decide +kernel)⟩
theorem lw_p12 : lw_okq (⟨"LockedAtDusk$Park", "goRound", "()V"⟩, 15) := ⟨⟨by decide +kernel, by decide +kernel⟩, List.mem_of_getElem? (i := 28) (by decide +kernel), List.mem_of_getElem? (i := 652) (by decide +kernel), List.mem_of_getElem? (i := 653) (by decide +kernel)⟩
theorem lw_p13 : lw_okq (⟨"LockedAtDusk", "bestChange", "(II)I"⟩, 11) := ⟨⟨by decide +kernel, by decide +kernel⟩, List.mem_of_getElem? (i := 20) (by decide +kernel), List.mem_of_getElem? (i := 696) (by decide +kernel), List.mem_of_getElem? (i := 697) (by decide +kernel)⟩
theorem lw_p14 : lw_okq (⟨"LockedAtDusk", "canChange", "(II)Z"⟩, 11) := ⟨⟨by decide +kernel, by decide +kernel⟩, List.mem_of_getElem? (i := 20) (by decide +kernel), List.mem_of_getElem? (i := 700) (by decide +kernel), List.mem_of_getElem? (i := 701) (by decide +kernel)⟩
theorem lw_p15 : lw_okq (⟨"LockedAtDusk", "makeChange", "(II)V"⟩, 11) := ⟨⟨by decide +kernel, by decide +kernel⟩, List.mem_of_getElem? (i := 20) (by decide +kernel), List.mem_of_getElem? (i := 704) (by decide +kernel), List.mem_of_getElem? (i := 705) (by decide +kernel)⟩
def lw_privs_1 : List (MethodName × Nat) := [(⟨"LockedAtDusk$Reader", "readClause", "()Z"⟩, 4), (⟨"LockedAtDusk$Reader", "isNext", "(C)Z"⟩, 4), (⟨"LockedAtDusk$Reader", "readWord", "(Ljava/lang/String;)Z"⟩, 4), (⟨"LockedAtDusk$Reader", "skip", "(C)Z"⟩, 4), (⟨"LockedAtDusk$Reader", "readNumber", "()I"⟩, 4), (⟨"LockedAtDusk$Reader", "readEither", "(I)Z"⟩, 4), (⟨"LockedAtDusk$Reader", "readBoth", "(I)Z"⟩, 4), (⟨"LockedAtDusk$Reader", "readPart", "(I)Z"⟩, 4), (⟨"LockedAtDusk$Reader", "readTest", "()Z"⟩, 4), (⟨"LockedAtDusk$Reader", "readOneOf", "(Ljava/lang/String;)I"⟩, 4), (⟨"LockedAtDusk$Reader", "readBehindNot", "(I)Z"⟩, 4), (⟨"LockedAtDusk$Park", "walk", "(LLockedAtDusk$Person;)V"⟩, 15), (⟨"LockedAtDusk$Park", "goRound", "()V"⟩, 15), (⟨"LockedAtDusk", "bestChange", "(II)I"⟩, 11), (⟨"LockedAtDusk", "canChange", "(II)Z"⟩, 11), (⟨"LockedAtDusk", "makeChange", "(II)V"⟩, 11)]
theorem lw_r1 : ∀ q ∈ lw_privs_1, lw_okq q := List.forall_mem_cons.mpr ⟨lw_p0, List.forall_mem_cons.mpr ⟨lw_p1, List.forall_mem_cons.mpr ⟨lw_p2, List.forall_mem_cons.mpr ⟨lw_p3, List.forall_mem_cons.mpr ⟨lw_p4, List.forall_mem_cons.mpr ⟨lw_p5, List.forall_mem_cons.mpr ⟨lw_p6, List.forall_mem_cons.mpr ⟨lw_p7, List.forall_mem_cons.mpr ⟨lw_p8, List.forall_mem_cons.mpr ⟨lw_p9, List.forall_mem_cons.mpr ⟨lw_p10, List.forall_mem_cons.mpr ⟨lw_p11, List.forall_mem_cons.mpr ⟨lw_p12, List.forall_mem_cons.mpr ⟨lw_p13, List.forall_mem_cons.mpr ⟨lw_p14, List.forall_mem_cons.mpr ⟨lw_p15, fun _ h => absurd h List.not_mem_nil⟩⟩⟩⟩⟩⟩⟩⟩⟩⟩⟩⟩⟩⟩⟩⟩
theorem lw_p16 : lw_okq (⟨"LockedAtDusk", "trialIsAsSeen", "()Z"⟩, 11) := ⟨⟨by decide +kernel, by decide +kernel⟩, List.mem_of_getElem? (i := 20) (by decide +kernel), List.mem_of_getElem? (i := 747) (by decide +kernel), List.mem_of_getElem? (i := 748) (by decide +kernel)⟩
theorem lw_p17 : lw_okq (⟨"LockedAtDusk$Acts", "run", "(IIII)I"⟩, 5) := ⟨⟨by decide +kernel, by decide +kernel⟩, List.mem_of_getElem? (i := 242) (by decide +kernel), List.mem_of_getElem? (i := 824) (by decide +kernel), List.mem_of_getElem? (i := 825) (by decide +kernel)⟩
theorem lw_p18 : lw_okq (⟨"LockedAtDusk$Acts", "keep", "(I)V"⟩, 5) := ⟨⟨by decide +kernel, by decide +kernel⟩, List.mem_of_getElem? (i := 242) (by decide +kernel), List.mem_of_getElem? (i := 835) (by decide +kernel), List.mem_of_getElem? (i := 836) (by decide +kernel)⟩
theorem lw_p19 : lw_okq (⟨"LockedAtDusk$Acts", "answerOf", "(III)I"⟩, 5) := ⟨⟨by decide +kernel, by decide +kernel⟩, List.mem_of_getElem? (i := 242) (by decide +kernel), List.mem_of_getElem? (i := 839) (by decide +kernel), List.mem_of_getElem? (i := 840) (by decide +kernel)⟩
theorem lw_p20 : lw_okq (⟨"LockedAtDuskModel", "isPlace", "(I)Z"⟩, 93) := ⟨⟨by decide +kernel, by decide +kernel⟩, List.mem_of_getElem? (i := 893) (by decide +kernel), List.mem_of_getElem? (i := 1184) (by decide +kernel), List.mem_of_getElem? (i := 1185) (by decide +kernel)⟩
theorem lw_p21 : lw_okq (⟨"LockedAtDuskModel", "in", "(III)Z"⟩, 93) := ⟨⟨by decide +kernel, by decide +kernel⟩, List.mem_of_getElem? (i := 893) (by decide +kernel), List.mem_of_getElem? (i := 1188) (by decide +kernel), List.mem_of_getElem? (i := 1189) (by decide +kernel)⟩
theorem lw_p22 : lw_okq (⟨"LockedAtDuskModel", "with0", "(IIZ)I"⟩, 93) := ⟨⟨by decide +kernel, by decide +kernel⟩, List.mem_of_getElem? (i := 893) (by decide +kernel), List.mem_of_getElem? (i := 1192) (by decide +kernel), List.mem_of_getElem? (i := 1193) (by decide +kernel)⟩
theorem lw_p23 : lw_okq (⟨"LockedAtDuskModel", "isPerson", "(I)Z"⟩, 93) := ⟨⟨by decide +kernel, by decide +kernel⟩, List.mem_of_getElem? (i := 893) (by decide +kernel), List.mem_of_getElem? (i := 1204) (by decide +kernel), List.mem_of_getElem? (i := 1205) (by decide +kernel)⟩
theorem lw_p24 : lw_okq (⟨"LockedAtDuskModel", "puts", "(II)V"⟩, 93) := ⟨⟨by decide +kernel, by decide +kernel⟩, List.mem_of_getElem? (i := 893) (by decide +kernel), List.mem_of_getElem? (i := 1208) (by decide +kernel), List.mem_of_getElem? (i := 1209) (by decide +kernel)⟩
theorem lw_p25 : lw_okq (⟨"LockedAtDuskModel", "has", "(II)Z"⟩, 93) := ⟨⟨by decide +kernel, by decide +kernel⟩, List.mem_of_getElem? (i := 893) (by decide +kernel), List.mem_of_getElem? (i := 1216) (by decide +kernel), List.mem_of_getElem? (i := 1217) (by decide +kernel)⟩
theorem lw_p26 : lw_okq (⟨"LockedAtDuskModel", "isGate", "(I)Z"⟩, 93) := ⟨⟨by decide +kernel, by decide +kernel⟩, List.mem_of_getElem? (i := 893) (by decide +kernel), List.mem_of_getElem? (i := 1224) (by decide +kernel), List.mem_of_getElem? (i := 1225) (by decide +kernel)⟩
theorem lw_p27 : lw_okq (⟨"LockedAtDuskModel", "goesText", "(I)Z"⟩, 93) := ⟨⟨by decide +kernel, by decide +kernel⟩, List.mem_of_getElem? (i := 893) (by decide +kernel), List.mem_of_getElem? (i := 1244) (by decide +kernel), List.mem_of_getElem? (i := 1245) (by decide +kernel)⟩
theorem lw_p28 : lw_okq (⟨"LockedAtDuskModel", "takesClause", "(I)Z"⟩, 93) := ⟨⟨by decide +kernel, by decide +kernel⟩, List.mem_of_getElem? (i := 893) (by decide +kernel), List.mem_of_getElem? (i := 1248) (by decide +kernel), List.mem_of_getElem? (i := 1249) (by decide +kernel)⟩
theorem lw_p29 : lw_okq (⟨"LockedAtDuskModel", "takesHead", "(I)Z"⟩, 93) := ⟨⟨by decide +kernel, by decide +kernel⟩, List.mem_of_getElem? (i := 893) (by decide +kernel), List.mem_of_getElem? (i := 1252) (by decide +kernel), List.mem_of_getElem? (i := 1253) (by decide +kernel)⟩
theorem lw_p30 : lw_okq (⟨"LockedAtDuskModel", "next", "()I"⟩, 93) := ⟨⟨by decide +kernel, by decide +kernel⟩, List.mem_of_getElem? (i := 893) (by decide +kernel), List.mem_of_getElem? (i := 1256) (by decide +kernel), List.mem_of_getElem? (i := 1257) (by decide +kernel)⟩
theorem lw_p31 : lw_okq (⟨"LockedAtDuskModel", "takesWord", "(II)Z"⟩, 93) := ⟨⟨by decide +kernel, by decide +kernel⟩, List.mem_of_getElem? (i := 893) (by decide +kernel), List.mem_of_getElem? (i := 1260) (by decide +kernel), List.mem_of_getElem? (i := 1261) (by decide +kernel)⟩
def lw_privs_2 : List (MethodName × Nat) := [(⟨"LockedAtDusk", "trialIsAsSeen", "()Z"⟩, 11), (⟨"LockedAtDusk$Acts", "run", "(IIII)I"⟩, 5), (⟨"LockedAtDusk$Acts", "keep", "(I)V"⟩, 5), (⟨"LockedAtDusk$Acts", "answerOf", "(III)I"⟩, 5), (⟨"LockedAtDuskModel", "isPlace", "(I)Z"⟩, 93), (⟨"LockedAtDuskModel", "in", "(III)Z"⟩, 93), (⟨"LockedAtDuskModel", "with0", "(IIZ)I"⟩, 93), (⟨"LockedAtDuskModel", "isPerson", "(I)Z"⟩, 93), (⟨"LockedAtDuskModel", "puts", "(II)V"⟩, 93), (⟨"LockedAtDuskModel", "has", "(II)Z"⟩, 93), (⟨"LockedAtDuskModel", "isGate", "(I)Z"⟩, 93), (⟨"LockedAtDuskModel", "goesText", "(I)Z"⟩, 93), (⟨"LockedAtDuskModel", "takesClause", "(I)Z"⟩, 93), (⟨"LockedAtDuskModel", "takesHead", "(I)Z"⟩, 93), (⟨"LockedAtDuskModel", "next", "()I"⟩, 93), (⟨"LockedAtDuskModel", "takesWord", "(II)Z"⟩, 93)]
theorem lw_r2 : ∀ q ∈ lw_privs_2, lw_okq q := List.forall_mem_cons.mpr ⟨lw_p16, List.forall_mem_cons.mpr ⟨lw_p17, List.forall_mem_cons.mpr ⟨lw_p18, List.forall_mem_cons.mpr ⟨lw_p19, List.forall_mem_cons.mpr ⟨lw_p20, List.forall_mem_cons.mpr ⟨lw_p21, List.forall_mem_cons.mpr ⟨lw_p22, List.forall_mem_cons.mpr ⟨lw_p23, List.forall_mem_cons.mpr ⟨lw_p24, List.forall_mem_cons.mpr ⟨lw_p25, List.forall_mem_cons.mpr ⟨lw_p26, List.forall_mem_cons.mpr ⟨lw_p27, List.forall_mem_cons.mpr ⟨lw_p28, List.forall_mem_cons.mpr ⟨lw_p29, List.forall_mem_cons.mpr ⟨lw_p30, List.forall_mem_cons.mpr ⟨lw_p31, fun _ h => absurd h List.not_mem_nil⟩⟩⟩⟩⟩⟩⟩⟩⟩⟩⟩⟩⟩⟩⟩⟩
theorem lw_p32 : lw_okq (⟨"LockedAtDuskModel", "takes", "(I)Z"⟩, 93) := ⟨⟨by decide +kernel, by decide +kernel⟩, List.mem_of_getElem? (i := 893) (by decide +kernel), List.mem_of_getElem? (i := 1264) (by decide +kernel), List.mem_of_getElem? (i := 1265) (by decide +kernel)⟩
theorem lw_p33 : lw_okq (⟨"LockedAtDuskModel", "takesNumber", "()Z"⟩, 93) := ⟨⟨by decide +kernel, by decide +kernel⟩, List.mem_of_getElem? (i := 893) (by decide +kernel), List.mem_of_getElem? (i := 1268) (by decide +kernel), List.mem_of_getElem? (i := 1269) (by decide +kernel)⟩
theorem lw_p34 : lw_okq (⟨"LockedAtDuskModel", "isDigit", "()Z"⟩, 93) := ⟨⟨by decide +kernel, by decide +kernel⟩, List.mem_of_getElem? (i := 893) (by decide +kernel), List.mem_of_getElem? (i := 1272) (by decide +kernel), List.mem_of_getElem? (i := 1273) (by decide +kernel)⟩
theorem lw_p35 : lw_okq (⟨"LockedAtDuskModel", "takesE", "(I)Z"⟩, 93) := ⟨⟨by decide +kernel, by decide +kernel⟩, List.mem_of_getElem? (i := 893) (by decide +kernel), List.mem_of_getElem? (i := 1276) (by decide +kernel), List.mem_of_getElem? (i := 1277) (by decide +kernel)⟩
theorem lw_p36 : lw_okq (⟨"LockedAtDuskModel", "takesTest", "()Z"⟩, 93) := ⟨⟨by decide +kernel, by decide +kernel⟩, List.mem_of_getElem? (i := 893) (by decide +kernel), List.mem_of_getElem? (i := 1280) (by decide +kernel), List.mem_of_getElem? (i := 1281) (by decide +kernel)⟩
theorem lw_p37 : lw_okq (⟨"LockedAtDuskModel", "place", "(I)I"⟩, 93) := ⟨⟨by decide +kernel, by decide +kernel⟩, List.mem_of_getElem? (i := 893) (by decide +kernel), List.mem_of_getElem? (i := 1284) (by decide +kernel), List.mem_of_getElem? (i := 1285) (by decide +kernel)⟩
theorem lw_p38 : lw_okq (⟨"LockedAtDuskModel", "emits", "(I)V"⟩, 93) := ⟨⟨by decide +kernel, by decide +kernel⟩, List.mem_of_getElem? (i := 893) (by decide +kernel), List.mem_of_getElem? (i := 1288) (by decide +kernel), List.mem_of_getElem? (i := 1289) (by decide +kernel)⟩
theorem lw_p39 : lw_okq (⟨"LockedAtDuskModel", "whole", "()V"⟩, 93) := ⟨⟨by decide +kernel, by decide +kernel⟩, List.mem_of_getElem? (i := 893) (by decide +kernel), List.mem_of_getElem? (i := 1292) (by decide +kernel), List.mem_of_getElem? (i := 1293) (by decide +kernel)⟩
theorem lw_p40 : lw_okq (⟨"LockedAtDuskModel", "settle", "(I)V"⟩, 93) := ⟨⟨by decide +kernel, by decide +kernel⟩, List.mem_of_getElem? (i := 893) (by decide +kernel), List.mem_of_getElem? (i := 1296) (by decide +kernel), List.mem_of_getElem? (i := 1297) (by decide +kernel)⟩
theorem lw_p41 : lw_okq (⟨"LockedAtDuskModel", "ears", "(I)I"⟩, 93) := ⟨⟨by decide +kernel, by decide +kernel⟩, List.mem_of_getElem? (i := 893) (by decide +kernel), List.mem_of_getElem? (i := 1304) (by decide +kernel), List.mem_of_getElem? (i := 1305) (by decide +kernel)⟩
theorem lw_p42 : lw_okq (⟨"LockedAtDuskModel", "begin", "()I"⟩, 93) := ⟨⟨by decide +kernel, by decide +kernel⟩, List.mem_of_getElem? (i := 893) (by decide +kernel), List.mem_of_getElem? (i := 1308) (by decide +kernel), List.mem_of_getElem? (i := 1309) (by decide +kernel)⟩
theorem lw_p43 : lw_okq (⟨"LockedAtDuskModel", "behind", "()I"⟩, 93) := ⟨⟨by decide +kernel, by decide +kernel⟩, List.mem_of_getElem? (i := 893) (by decide +kernel), List.mem_of_getElem? (i := 1312) (by decide +kernel), List.mem_of_getElem? (i := 1313) (by decide +kernel)⟩
theorem lw_p44 : lw_okq (⟨"LockedAtDuskModel", "holds", "(II)Z"⟩, 93) := ⟨⟨by decide +kernel, by decide +kernel⟩, List.mem_of_getElem? (i := 893) (by decide +kernel), List.mem_of_getElem? (i := 1316) (by decide +kernel), List.mem_of_getElem? (i := 1317) (by decide +kernel)⟩
theorem lw_p45 : lw_okq (⟨"LockedAtDuskModel", "factOf", "(II)I"⟩, 93) := ⟨⟨by decide +kernel, by decide +kernel⟩, List.mem_of_getElem? (i := 893) (by decide +kernel), List.mem_of_getElem? (i := 1320) (by decide +kernel), List.mem_of_getElem? (i := 1321) (by decide +kernel)⟩
theorem lw_p46 : lw_okq (⟨"LockedAtDuskModel", "ones", "(I)I"⟩, 93) := ⟨⟨by decide +kernel, by decide +kernel⟩, List.mem_of_getElem? (i := 893) (by decide +kernel), List.mem_of_getElem? (i := 1324) (by decide +kernel), List.mem_of_getElem? (i := 1325) (by decide +kernel)⟩
theorem lw_p47 : lw_okq (⟨"LockedAtDuskModel", "hears", "(I)Z"⟩, 93) := ⟨⟨by decide +kernel, by decide +kernel⟩, List.mem_of_getElem? (i := 893) (by decide +kernel), List.mem_of_getElem? (i := 1328) (by decide +kernel), List.mem_of_getElem? (i := 1329) (by decide +kernel)⟩
def lw_privs_3 : List (MethodName × Nat) := [(⟨"LockedAtDuskModel", "takes", "(I)Z"⟩, 93), (⟨"LockedAtDuskModel", "takesNumber", "()Z"⟩, 93), (⟨"LockedAtDuskModel", "isDigit", "()Z"⟩, 93), (⟨"LockedAtDuskModel", "takesE", "(I)Z"⟩, 93), (⟨"LockedAtDuskModel", "takesTest", "()Z"⟩, 93), (⟨"LockedAtDuskModel", "place", "(I)I"⟩, 93), (⟨"LockedAtDuskModel", "emits", "(I)V"⟩, 93), (⟨"LockedAtDuskModel", "whole", "()V"⟩, 93), (⟨"LockedAtDuskModel", "settle", "(I)V"⟩, 93), (⟨"LockedAtDuskModel", "ears", "(I)I"⟩, 93), (⟨"LockedAtDuskModel", "begin", "()I"⟩, 93), (⟨"LockedAtDuskModel", "behind", "()I"⟩, 93), (⟨"LockedAtDuskModel", "holds", "(II)Z"⟩, 93), (⟨"LockedAtDuskModel", "factOf", "(II)I"⟩, 93), (⟨"LockedAtDuskModel", "ones", "(I)I"⟩, 93), (⟨"LockedAtDuskModel", "hears", "(I)Z"⟩, 93)]
theorem lw_r3 : ∀ q ∈ lw_privs_3, lw_okq q := List.forall_mem_cons.mpr ⟨lw_p32, List.forall_mem_cons.mpr ⟨lw_p33, List.forall_mem_cons.mpr ⟨lw_p34, List.forall_mem_cons.mpr ⟨lw_p35, List.forall_mem_cons.mpr ⟨lw_p36, List.forall_mem_cons.mpr ⟨lw_p37, List.forall_mem_cons.mpr ⟨lw_p38, List.forall_mem_cons.mpr ⟨lw_p39, List.forall_mem_cons.mpr ⟨lw_p40, List.forall_mem_cons.mpr ⟨lw_p41, List.forall_mem_cons.mpr ⟨lw_p42, List.forall_mem_cons.mpr ⟨lw_p43, List.forall_mem_cons.mpr ⟨lw_p44, List.forall_mem_cons.mpr ⟨lw_p45, List.forall_mem_cons.mpr ⟨lw_p46, List.forall_mem_cons.mpr ⟨lw_p47, fun _ h => absurd h List.not_mem_nil⟩⟩⟩⟩⟩⟩⟩⟩⟩⟩⟩⟩⟩⟩⟩⟩
theorem lw_p48 : lw_okq (⟨"LockedAtDuskModel", "way", "(II)I"⟩, 93) := ⟨⟨by decide +kernel, by decide +kernel⟩, List.mem_of_getElem? (i := 893) (by decide +kernel), List.mem_of_getElem? (i := 1332) (by decide +kernel), List.mem_of_getElem? (i := 1333) (by decide +kernel)⟩
theorem lw_p49 : lw_okq (⟨"LockedAtDuskModel", "up", "(II)I"⟩, 93) := ⟨⟨by decide +kernel, by decide +kernel⟩, List.mem_of_getElem? (i := 893) (by decide +kernel), List.mem_of_getElem? (i := 1336) (by decide +kernel), List.mem_of_getElem? (i := 1337) (by decide +kernel)⟩
theorem lw_p50 : lw_okq (⟨"LockedAtDuskModel", "lastOf", "(II)I"⟩, 93) := ⟨⟨by decide +kernel, by decide +kernel⟩, List.mem_of_getElem? (i := 893) (by decide +kernel), List.mem_of_getElem? (i := 1340) (by decide +kernel), List.mem_of_getElem? (i := 1341) (by decide +kernel)⟩
theorem lw_p51 : lw_okq (⟨"LockedAtDuskModel", "steps", "(I)I"⟩, 93) := ⟨⟨by decide +kernel, by decide +kernel⟩, List.mem_of_getElem? (i := 893) (by decide +kernel), List.mem_of_getElem? (i := 1344) (by decide +kernel), List.mem_of_getElem? (i := 1345) (by decide +kernel)⟩
theorem lw_p52 : lw_okq (⟨"LockedAtDuskModel", "goal", "(I)I"⟩, 93) := ⟨⟨by decide +kernel, by decide +kernel⟩, List.mem_of_getElem? (i := 893) (by decide +kernel), List.mem_of_getElem? (i := 1348) (by decide +kernel), List.mem_of_getElem? (i := 1349) (by decide +kernel)⟩
theorem lw_p53 : lw_okq (⟨"LockedAtDuskModel", "pace", "()I"⟩, 93) := ⟨⟨by decide +kernel, by decide +kernel⟩, List.mem_of_getElem? (i := 893) (by decide +kernel), List.mem_of_getElem? (i := 1356) (by decide +kernel), List.mem_of_getElem? (i := 1357) (by decide +kernel)⟩
theorem lw_p54 : lw_okq (⟨"LockedAtDuskModel", "goMinutes", "(I)V"⟩, 93) := ⟨⟨by decide +kernel, by decide +kernel⟩, List.mem_of_getElem? (i := 893) (by decide +kernel), List.mem_of_getElem? (i := 1364) (by decide +kernel), List.mem_of_getElem? (i := 1365) (by decide +kernel)⟩
theorem lw_p55 : lw_okq (⟨"LockedAtDuskModel", "goMinute", "()V"⟩, 93) := ⟨⟨by decide +kernel, by decide +kernel⟩, List.mem_of_getElem? (i := 893) (by decide +kernel), List.mem_of_getElem? (i := 1368) (by decide +kernel), List.mem_of_getElem? (i := 1369) (by decide +kernel)⟩
theorem lw_p56 : lw_okq (⟨"LockedAtDuskModel", "goPerson", "(I)V"⟩, 93) := ⟨⟨by decide +kernel, by decide +kernel⟩, List.mem_of_getElem? (i := 893) (by decide +kernel), List.mem_of_getElem? (i := 1372) (by decide +kernel), List.mem_of_getElem? (i := 1373) (by decide +kernel)⟩
theorem lw_p57 : lw_okq (⟨"LockedAtDuskModel", "toward", "(III)I"⟩, 93) := ⟨⟨by decide +kernel, by decide +kernel⟩, List.mem_of_getElem? (i := 893) (by decide +kernel), List.mem_of_getElem? (i := 1376) (by decide +kernel), List.mem_of_getElem? (i := 1377) (by decide +kernel)⟩
theorem lw_p58 : lw_okq (⟨"LockedAtDuskModel", "goKeeper", "()V"⟩, 93) := ⟨⟨by decide +kernel, by decide +kernel⟩, List.mem_of_getElem? (i := 893) (by decide +kernel), List.mem_of_getElem? (i := 1380) (by decide +kernel), List.mem_of_getElem? (i := 1381) (by decide +kernel)⟩
theorem lw_p59 : lw_okq (⟨"LockedAtDuskModel", "isMinutes", "(I)Z"⟩, 93) := ⟨⟨by decide +kernel, by decide +kernel⟩, List.mem_of_getElem? (i := 893) (by decide +kernel), List.mem_of_getElem? (i := 1388) (by decide +kernel), List.mem_of_getElem? (i := 1389) (by decide +kernel)⟩
theorem lw_p60 : lw_okq (⟨"LockedAtDuskModel", "save", "()V"⟩, 93) := ⟨⟨by decide +kernel, by decide +kernel⟩, List.mem_of_getElem? (i := 893) (by decide +kernel), List.mem_of_getElem? (i := 1392) (by decide +kernel), List.mem_of_getElem? (i := 1393) (by decide +kernel)⟩
theorem lw_p61 : lw_okq (⟨"LockedAtDuskModel", "putBack", "()V"⟩, 93) := ⟨⟨by decide +kernel, by decide +kernel⟩, List.mem_of_getElem? (i := 893) (by decide +kernel), List.mem_of_getElem? (i := 1396) (by decide +kernel), List.mem_of_getElem? (i := 1397) (by decide +kernel)⟩
theorem lw_p62 : lw_okq (⟨"LockedAtDuskModel", "all", "()I"⟩, 93) := ⟨⟨by decide +kernel, by decide +kernel⟩, List.mem_of_getElem? (i := 893) (by decide +kernel), List.mem_of_getElem? (i := 1404) (by decide +kernel), List.mem_of_getElem? (i := 1405) (by decide +kernel)⟩
theorem lw_p63 : lw_okq (⟨"LockedAtDuskModel", "firstOf", "()I"⟩, 93) := ⟨⟨by decide +kernel, by decide +kernel⟩, List.mem_of_getElem? (i := 893) (by decide +kernel), List.mem_of_getElem? (i := 1417) (by decide +kernel), List.mem_of_getElem? (i := 1418) (by decide +kernel)⟩
def lw_privs_4 : List (MethodName × Nat) := [(⟨"LockedAtDuskModel", "way", "(II)I"⟩, 93), (⟨"LockedAtDuskModel", "up", "(II)I"⟩, 93), (⟨"LockedAtDuskModel", "lastOf", "(II)I"⟩, 93), (⟨"LockedAtDuskModel", "steps", "(I)I"⟩, 93), (⟨"LockedAtDuskModel", "goal", "(I)I"⟩, 93), (⟨"LockedAtDuskModel", "pace", "()I"⟩, 93), (⟨"LockedAtDuskModel", "goMinutes", "(I)V"⟩, 93), (⟨"LockedAtDuskModel", "goMinute", "()V"⟩, 93), (⟨"LockedAtDuskModel", "goPerson", "(I)V"⟩, 93), (⟨"LockedAtDuskModel", "toward", "(III)I"⟩, 93), (⟨"LockedAtDuskModel", "goKeeper", "()V"⟩, 93), (⟨"LockedAtDuskModel", "isMinutes", "(I)Z"⟩, 93), (⟨"LockedAtDuskModel", "save", "()V"⟩, 93), (⟨"LockedAtDuskModel", "putBack", "()V"⟩, 93), (⟨"LockedAtDuskModel", "all", "()I"⟩, 93), (⟨"LockedAtDuskModel", "firstOf", "()I"⟩, 93)]
theorem lw_r4 : ∀ q ∈ lw_privs_4, lw_okq q := List.forall_mem_cons.mpr ⟨lw_p48, List.forall_mem_cons.mpr ⟨lw_p49, List.forall_mem_cons.mpr ⟨lw_p50, List.forall_mem_cons.mpr ⟨lw_p51, List.forall_mem_cons.mpr ⟨lw_p52, List.forall_mem_cons.mpr ⟨lw_p53, List.forall_mem_cons.mpr ⟨lw_p54, List.forall_mem_cons.mpr ⟨lw_p55, List.forall_mem_cons.mpr ⟨lw_p56, List.forall_mem_cons.mpr ⟨lw_p57, List.forall_mem_cons.mpr ⟨lw_p58, List.forall_mem_cons.mpr ⟨lw_p59, List.forall_mem_cons.mpr ⟨lw_p60, List.forall_mem_cons.mpr ⟨lw_p61, List.forall_mem_cons.mpr ⟨lw_p62, List.forall_mem_cons.mpr ⟨lw_p63, fun _ h => absurd h List.not_mem_nil⟩⟩⟩⟩⟩⟩⟩⟩⟩⟩⟩⟩⟩⟩⟩⟩
theorem lw_p64 : lw_okq (⟨"LockedAtDuskModel", "leftThen", "()I"⟩, 93) := ⟨⟨by decide +kernel, by decide +kernel⟩, List.mem_of_getElem? (i := 893) (by decide +kernel), List.mem_of_getElem? (i := 1421) (by decide +kernel), List.mem_of_getElem? (i := 1422) (by decide +kernel)⟩
theorem lw_p65 : lw_okq (⟨"LockedAtDuskModel", "swapOf", "()I"⟩, 93) := ⟨⟨by decide +kernel, by decide +kernel⟩, List.mem_of_getElem? (i := 893) (by decide +kernel), List.mem_of_getElem? (i := 1425) (by decide +kernel), List.mem_of_getElem? (i := 1426) (by decide +kernel)⟩
theorem lw_p66 : lw_okq (⟨"LockedAtDuskModel", "left", "()I"⟩, 93) := ⟨⟨by decide +kernel, by decide +kernel⟩, List.mem_of_getElem? (i := 893) (by decide +kernel), List.mem_of_getElem? (i := 1429) (by decide +kernel), List.mem_of_getElem? (i := 1430) (by decide +kernel)⟩
theorem lw_p67 : lw_okq (⟨"LockedAtDuskModel", "quickOf", "()I"⟩, 93) := ⟨⟨by decide +kernel, by decide +kernel⟩, List.mem_of_getElem? (i := 893) (by decide +kernel), List.mem_of_getElem? (i := 1433) (by decide +kernel), List.mem_of_getElem? (i := 1434) (by decide +kernel)⟩
theorem lw_p68 : lw_okq (⟨"LockedAtDuskModel", "waitOf", "()I"⟩, 93) := ⟨⟨by decide +kernel, by decide +kernel⟩, List.mem_of_getElem? (i := 893) (by decide +kernel), List.mem_of_getElem? (i := 1437) (by decide +kernel), List.mem_of_getElem? (i := 1438) (by decide +kernel)⟩
theorem lw_p69 : lw_okq (⟨"LockedAtDuskModel", "openOf", "()I"⟩, 93) := ⟨⟨by decide +kernel, by decide +kernel⟩, List.mem_of_getElem? (i := 893) (by decide +kernel), List.mem_of_getElem? (i := 1441) (by decide +kernel), List.mem_of_getElem? (i := 1442) (by decide +kernel)⟩
theorem lw_p70 : lw_okq (⟨"LockedAtDuskModel", "isSeen", "(II)Z"⟩, 93) := ⟨⟨by decide +kernel, by decide +kernel⟩, List.mem_of_getElem? (i := 893) (by decide +kernel), List.mem_of_getElem? (i := 1457) (by decide +kernel), List.mem_of_getElem? (i := 1458) (by decide +kernel)⟩
theorem lw_p71 : lw_okq (⟨"LockedAtDuskModel", "lowest", "(III)J"⟩, 93) := ⟨⟨by decide +kernel, by decide +kernel⟩, List.mem_of_getElem? (i := 893) (by decide +kernel), List.mem_of_getElem? (i := 1470) (by decide +kernel), List.mem_of_getElem? (i := 1471) (by decide +kernel)⟩
theorem lw_p72 : lw_okq (⟨"LockedAtDuskModel", "divisor", "(II)I"⟩, 93) := ⟨⟨by decide +kernel, by decide +kernel⟩, List.mem_of_getElem? (i := 893) (by decide +kernel), List.mem_of_getElem? (i := 1474) (by decide +kernel), List.mem_of_getElem? (i := 1475) (by decide +kernel)⟩
theorem lw_p73 : lw_okq (⟨"LockedAtDuskModel", "isTape", "(I)Z"⟩, 93) := ⟨⟨by decide +kernel, by decide +kernel⟩, List.mem_of_getElem? (i := 893) (by decide +kernel), List.mem_of_getElem? (i := 1502) (by decide +kernel), List.mem_of_getElem? (i := 1503) (by decide +kernel)⟩
theorem lw_p74 : lw_okq (⟨"LockedAtDuskModel", "waitsAct", "(II)I"⟩, 93) := ⟨⟨by decide +kernel, by decide +kernel⟩, List.mem_of_getElem? (i := 893) (by decide +kernel), List.mem_of_getElem? (i := 1518) (by decide +kernel), List.mem_of_getElem? (i := 1519) (by decide +kernel)⟩
theorem lw_p75 : lw_okq (⟨"LockedAtDuskModel", "body", "(I)V"⟩, 93) := ⟨⟨by decide +kernel, by decide +kernel⟩, List.mem_of_getElem? (i := 893) (by decide +kernel), List.mem_of_getElem? (i := 1522) (by decide +kernel), List.mem_of_getElem? (i := 1523) (by decide +kernel)⟩
theorem lw_p76 : lw_okq (⟨"LockedAtDuskModel", "personWaits", "(II)I"⟩, 93) := ⟨⟨by decide +kernel, by decide +kernel⟩, List.mem_of_getElem? (i := 893) (by decide +kernel), List.mem_of_getElem? (i := 1526) (by decide +kernel), List.mem_of_getElem? (i := 1527) (by decide +kernel)⟩
theorem lw_p77 : lw_okq (⟨"LockedAtDuskModel", "walksAct", "(II)I"⟩, 93) := ⟨⟨by decide +kernel, by decide +kernel⟩, List.mem_of_getElem? (i := 893) (by decide +kernel), List.mem_of_getElem? (i := 1530) (by decide +kernel), List.mem_of_getElem? (i := 1531) (by decide +kernel)⟩
theorem lw_p78 : lw_okq (⟨"LockedAtDuskModel", "oldWalks", "(II)I"⟩, 93) := ⟨⟨by decide +kernel, by decide +kernel⟩, List.mem_of_getElem? (i := 893) (by decide +kernel), List.mem_of_getElem? (i := 1534) (by decide +kernel), List.mem_of_getElem? (i := 1535) (by decide +kernel)⟩
theorem lw_p79 : lw_okq (⟨"LockedAtDuskModel", "personWalks", "(II)I"⟩, 93) := ⟨⟨by decide +kernel, by decide +kernel⟩, List.mem_of_getElem? (i := 893) (by decide +kernel), List.mem_of_getElem? (i := 1538) (by decide +kernel), List.mem_of_getElem? (i := 1539) (by decide +kernel)⟩
def lw_privs_5 : List (MethodName × Nat) := [(⟨"LockedAtDuskModel", "leftThen", "()I"⟩, 93), (⟨"LockedAtDuskModel", "swapOf", "()I"⟩, 93), (⟨"LockedAtDuskModel", "left", "()I"⟩, 93), (⟨"LockedAtDuskModel", "quickOf", "()I"⟩, 93), (⟨"LockedAtDuskModel", "waitOf", "()I"⟩, 93), (⟨"LockedAtDuskModel", "openOf", "()I"⟩, 93), (⟨"LockedAtDuskModel", "isSeen", "(II)Z"⟩, 93), (⟨"LockedAtDuskModel", "lowest", "(III)J"⟩, 93), (⟨"LockedAtDuskModel", "divisor", "(II)I"⟩, 93), (⟨"LockedAtDuskModel", "isTape", "(I)Z"⟩, 93), (⟨"LockedAtDuskModel", "waitsAct", "(II)I"⟩, 93), (⟨"LockedAtDuskModel", "body", "(I)V"⟩, 93), (⟨"LockedAtDuskModel", "personWaits", "(II)I"⟩, 93), (⟨"LockedAtDuskModel", "walksAct", "(II)I"⟩, 93), (⟨"LockedAtDuskModel", "oldWalks", "(II)I"⟩, 93), (⟨"LockedAtDuskModel", "personWalks", "(II)I"⟩, 93)]
theorem lw_r5 : ∀ q ∈ lw_privs_5, lw_okq q := List.forall_mem_cons.mpr ⟨lw_p64, List.forall_mem_cons.mpr ⟨lw_p65, List.forall_mem_cons.mpr ⟨lw_p66, List.forall_mem_cons.mpr ⟨lw_p67, List.forall_mem_cons.mpr ⟨lw_p68, List.forall_mem_cons.mpr ⟨lw_p69, List.forall_mem_cons.mpr ⟨lw_p70, List.forall_mem_cons.mpr ⟨lw_p71, List.forall_mem_cons.mpr ⟨lw_p72, List.forall_mem_cons.mpr ⟨lw_p73, List.forall_mem_cons.mpr ⟨lw_p74, List.forall_mem_cons.mpr ⟨lw_p75, List.forall_mem_cons.mpr ⟨lw_p76, List.forall_mem_cons.mpr ⟨lw_p77, List.forall_mem_cons.mpr ⟨lw_p78, List.forall_mem_cons.mpr ⟨lw_p79, fun _ h => absurd h List.not_mem_nil⟩⟩⟩⟩⟩⟩⟩⟩⟩⟩⟩⟩⟩⟩⟩⟩
theorem lw_p80 : lw_okq (⟨"LockedAtDuskModel", "tellsAct", "(II)I"⟩, 93) := ⟨⟨by decide +kernel, by decide +kernel⟩, List.mem_of_getElem? (i := 893) (by decide +kernel), List.mem_of_getElem? (i := 1542) (by decide +kernel), List.mem_of_getElem? (i := 1543) (by decide +kernel)⟩
theorem lw_p81 : lw_okq (⟨"LockedAtDuskModel", "personTells", "(II)I"⟩, 93) := ⟨⟨by decide +kernel, by decide +kernel⟩, List.mem_of_getElem? (i := 893) (by decide +kernel), List.mem_of_getElem? (i := 1546) (by decide +kernel), List.mem_of_getElem? (i := 1547) (by decide +kernel)⟩
theorem lw_p82 : lw_okq (⟨"LockedAtDuskModel", "narrow", "(IJ)J"⟩, 93) := ⟨⟨by decide +kernel, by decide +kernel⟩, List.mem_of_getElem? (i := 893) (by decide +kernel), List.mem_of_getElem? (i := 1570) (by decide +kernel), List.mem_of_getElem? (i := 1571) (by decide +kernel)⟩
def lw_privs_6 : List (MethodName × Nat) := [(⟨"LockedAtDuskModel", "tellsAct", "(II)I"⟩, 93), (⟨"LockedAtDuskModel", "personTells", "(II)I"⟩, 93), (⟨"LockedAtDuskModel", "narrow", "(IJ)J"⟩, 93)]
theorem lw_r6 : ∀ q ∈ lw_privs_6, lw_okq q := List.forall_mem_cons.mpr ⟨lw_p80, List.forall_mem_cons.mpr ⟨lw_p81, List.forall_mem_cons.mpr ⟨lw_p82, fun _ h => absurd h List.not_mem_nil⟩⟩⟩
def lw_privs : List (MethodName × Nat) := lw_privs_1 ++ (lw_privs_2 ++ (lw_privs_3 ++ (lw_privs_4 ++ (lw_privs_5 ++ (lw_privs_6)))))
def lw_tbl : List Cond := k2_sels lw_privs ++ tables_1
theorem lw_privs_ok : ∀ q ∈ lw_privs, lw_okq q := by
  show ∀ q ∈ lw_privs_1 ++ (lw_privs_2 ++ (lw_privs_3 ++ (lw_privs_4 ++ (lw_privs_5 ++ (lw_privs_6))))), lw_okq q
  exact List.forall_mem_append.mpr ⟨lw_r1, List.forall_mem_append.mpr ⟨lw_r2, List.forall_mem_append.mpr ⟨lw_r3, List.forall_mem_append.mpr ⟨lw_r4, List.forall_mem_append.mpr ⟨lw_r5, lw_r6⟩⟩⟩⟩⟩

/-! ===== END ===== -/
/-! ===== BEGIN printed: names, fields, word lists, decode rows ===== -/
def RX0 : String := "LockedAtDusk$Acts"
def TX0 : u_T := fun k => match k with
  | 0 => ("LockedAtDusk$Acts", "trace", "[I", true)
  | 1 => ("LockedAtDusk$Acts", "ran", "I", false)
  | 2 => ("LockedAtDusk$Acts", "kind", "I", false)
  | 3 => ("LockedAtDusk$Acts", "number", "I", false)
  | _ => ("LockedAtDusk$Acts", "v", "I", false)
def tyX0 : Nat → FieldType := fun k => match k with
  | 0 => .array .int
  | 1 => .int
  | 2 => .int
  | 3 => .int
  | _ => .int
theorem nmX0 : ∀ a, a < 5 → ∀ b, b < 5 → a ≠ b → (TX0 a).2.1 ≠ (TX0 b).2.1 := by decide +kernel
theorem tyX0_ok : ∀ k, k < 5 → parseFieldDescriptor (TX0 k).2.2.1 = some (tyX0 k) := by decide +kernel
abbrev cX0_init : ByteArray := prog_2_method_1_code
def yX0_init : MethodName := ⟨RX0, "<init>", "()V"⟩
abbrev cX0_begin : ByteArray := prog_2_method_2_code
def yX0_begin : MethodName := ⟨RX0, "begin", "(ILLockedAtDusk$Person;II)I"⟩
abbrev cX0_run : ByteArray := prog_2_method_3_code
def yX0_run : MethodName := ⟨RX0, "run", "(IIII)I"⟩
abbrev cX0_answerOf : ByteArray := prog_2_method_4_code
def yX0_answerOf : MethodName := ⟨RX0, "answerOf", "(III)I"⟩
abbrev cX0_bodyOf : ByteArray := prog_2_method_5_code
def yX0_bodyOf : MethodName := ⟨RX0, "bodyOf", "(II)I"⟩
abbrev cX0_keep : ByteArray := prog_2_method_6_code
def yX0_keep : MethodName := ⟨RX0, "keep", "(I)V"⟩
def RX1 : String := "LockedAtDusk$Dusk"
def TX1 : u_T := fun k => match k with
  | 0 => ("LockedAtDusk$Dusk", "codes", "[I", true)
  | 1 => ("LockedAtDusk$Dusk", "size", "I", false)
  | 2 => ("LockedAtDusk$Dusk", "bell", "I", false)
  | _ => ("LockedAtDusk$Dusk", "pace", "I", false)
def tyX1 : Nat → FieldType := fun k => match k with
  | 0 => .array .int
  | 1 => .int
  | 2 => .int
  | _ => .int
theorem nmX1 : ∀ a, a < 4 → ∀ b, b < 4 → a ≠ b → (TX1 a).2.1 ≠ (TX1 b).2.1 := by decide +kernel
theorem tyX1_ok : ∀ k, k < 4 → parseFieldDescriptor (TX1 k).2.2.1 = some (tyX1 k) := by decide +kernel
abbrev cX1_init : ByteArray := prog_3_method_1_code
def yX1_init : MethodName := ⟨RX1, "<init>", "()V"⟩
abbrev cX1_empty : ByteArray := prog_3_method_2_code
def yX1_empty : MethodName := ⟨RX1, "empty", "()V"⟩
abbrev cX1_addCode : ByteArray := prog_3_method_3_code
def yX1_addCode : MethodName := ⟨RX1, "addCode", "(I)V"⟩
abbrev cX1_earsBy : ByteArray := prog_3_method_4_code
def yX1_earsBy : MethodName := ⟨RX1, "earsBy", "([I)I"⟩
abbrev cX1_testHolds : ByteArray := prog_3_method_5_code
def yX1_testHolds : MethodName := ⟨RX1, "testHolds", "(I[I)Z"⟩
def RX2 : String := "LockedAtDusk$Image"
def TX2 : u_T := fun k => match k with
  | 0 => ("LockedAtDusk$Image", "park", "LLockedAtDusk$Park;", true)
  | 1 => ("LockedAtDusk$Image", "seen", "LLockedAtDusk$Rows;", true)
  | 2 => ("LockedAtDusk$Image", "evening", "LLockedAtDusk$Rows;", true)
  | 3 => ("LockedAtDusk$Image", "book", "LLockedAtDusk$Rows;", true)
  | _ => ("LockedAtDusk$Image", "isTaken", "Z", false)
def tyX2 : Nat → FieldType := fun k => match k with
  | 0 => .object "LockedAtDusk$Park"
  | 1 => .object "LockedAtDusk$Rows"
  | 2 => .object "LockedAtDusk$Rows"
  | 3 => .object "LockedAtDusk$Rows"
  | _ => .boolean
theorem nmX2 : ∀ a, a < 5 → ∀ b, b < 5 → a ≠ b → (TX2 a).2.1 ≠ (TX2 b).2.1 := by decide +kernel
theorem tyX2_ok : ∀ k, k < 5 → parseFieldDescriptor (TX2 k).2.2.1 = some (tyX2 k) := by decide +kernel
abbrev cX2_init : ByteArray := prog_4_method_1_code
def yX2_init : MethodName := ⟨RX2, "<init>", "()V"⟩
def RX3 : String := "LockedAtDusk$Park"
def TX3 : u_T := fun k => match k with
  | 0 => ("LockedAtDusk$Park", "gatePlaces", "[I", true)
  | 1 => ("LockedAtDusk$Park", "persons", "[LLockedAtDusk$Person;", true)
  | 2 => ("LockedAtDusk$Park", "round", "[I", true)
  | 3 => ("LockedAtDusk$Park", "facts", "[I", true)
  | 4 => ("LockedAtDusk$Park", "gates", "I", false)
  | 5 => ("LockedAtDusk$Park", "shutGates", "I", false)
  | 6 => ("LockedAtDusk$Park", "people", "I", false)
  | 7 => ("LockedAtDusk$Park", "keeper", "I", false)
  | 8 => ("LockedAtDusk$Park", "rounds", "I", false)
  | 9 => ("LockedAtDusk$Park", "at", "I", false)
  | 10 => ("LockedAtDusk$Park", "minute", "I", false)
  | 11 => ("LockedAtDusk$Park", "dusk", "LLockedAtDusk$Dusk;", false)
  | 12 => ("LockedAtDusk$Park", "otherPace", "I", false)
  | 13 => ("LockedAtDusk$Park", "waiting", "I", false)
  | _ => ("LockedAtDusk$Park", "openGate", "I", false)
def tyX3 : Nat → FieldType := fun k => match k with
  | 0 => .array .int
  | 1 => .array (.object "LockedAtDusk$Person")
  | 2 => .array .int
  | 3 => .array .int
  | 4 => .int
  | 5 => .int
  | 6 => .int
  | 7 => .int
  | 8 => .int
  | 9 => .int
  | 10 => .int
  | 11 => .object "LockedAtDusk$Dusk"
  | 12 => .int
  | 13 => .int
  | _ => .int
theorem nmX3 : ∀ a, a < 15 → ∀ b, b < 15 → a ≠ b → (TX3 a).2.1 ≠ (TX3 b).2.1 := by decide +kernel
theorem tyX3_ok : ∀ k, k < 15 → parseFieldDescriptor (TX3 k).2.2.1 = some (tyX3 k) := by decide +kernel
abbrev cX3_init : ByteArray := prog_5_method_1_code
def yX3_init : MethodName := ⟨RX3, "<init>", "()V"⟩
abbrev cX3_copyFrom : ByteArray := prog_5_method_2_code
def yX3_copyFrom : MethodName := ⟨RX3, "copyFrom", "(LLockedAtDusk$Park;)V"⟩
abbrev cX3_hasGate : ByteArray := prog_5_method_3_code
def yX3_hasGate : MethodName := ⟨RX3, "hasGate", "(I)Z"⟩
abbrev cX3_hasPerson : ByteArray := prog_5_method_4_code
def yX3_hasPerson : MethodName := ⟨RX3, "hasPerson", "(I)Z"⟩
abbrev cX3_addGate : ByteArray := prog_5_method_5_code
def yX3_addGate : MethodName := ⟨RX3, "addGate", "(I)I"⟩
abbrev cX3_addPerson : ByteArray := prog_5_method_6_code
def yX3_addPerson : MethodName := ⟨RX3, "addPerson", "(III)I"⟩
abbrev cX3_isShut : ByteArray := prog_5_method_7_code
def yX3_isShut : MethodName := ⟨RX3, "isShut", "(I)Z"⟩
abbrev cX3_setShut : ByteArray := prog_5_method_8_code
def yX3_setShut : MethodName := ⟨RX3, "setShut", "(IZ)V"⟩
abbrev cX3_setDown : ByteArray := prog_5_method_9_code
def yX3_setDown : MethodName := ⟨RX3, "setDown", "(II)V"⟩
abbrev cX3_endRound : ByteArray := prog_5_method_10_code
def yX3_endRound : MethodName := ⟨RX3, "endRound", "()V"⟩
abbrev cX3_beginRoundWith : ByteArray := prog_5_method_11_code
def yX3_beginRoundWith : MethodName := ⟨RX3, "beginRoundWith", "(I)V"⟩
abbrev cX3_swapInRound : ByteArray := prog_5_method_12_code
def yX3_swapInRound : MethodName := ⟨RX3, "swapInRound", "(II)V"⟩
abbrev cX3_keepOpen : ByteArray := prog_5_method_13_code
def yX3_keepOpen : MethodName := ⟨RX3, "keepOpen", "(I)V"⟩
abbrev cX3_sendOthersOut : ByteArray := prog_5_method_14_code
def yX3_sendOthersOut : MethodName := ⟨RX3, "sendOthersOut", "(I)V"⟩
abbrev cX3_outBits : ByteArray := prog_5_method_15_code
def yX3_outBits : MethodName := ⟨RX3, "outBits", "()I"⟩
abbrev cX3_inside : ByteArray := prog_5_method_16_code
def yX3_inside : MethodName := ⟨RX3, "inside", "()I"⟩
abbrev cX3_leftBehind : ByteArray := prog_5_method_17_code
def yX3_leftBehind : MethodName := ⟨RX3, "leftBehind", "()I"⟩
abbrev cX3_passMinutes : ByteArray := prog_5_method_18_code
def yX3_passMinutes : MethodName := ⟨RX3, "passMinutes", "(I)V"⟩
abbrev cX3_passMinute : ByteArray := prog_5_method_19_code
def yX3_passMinute : MethodName := ⟨RX3, "passMinute", "()V"⟩
abbrev cX3_walk : ByteArray := prog_5_method_20_code
def yX3_walk : MethodName := ⟨RX3, "walk", "(LLockedAtDusk$Person;)V"⟩
abbrev cX3_goRound : ByteArray := prog_5_method_21_code
def yX3_goRound : MethodName := ⟨RX3, "goRound", "()V"⟩
abbrev cX3_ears : ByteArray := prog_5_method_22_code
def yX3_ears : MethodName := ⟨RX3, "ears", "(I)I"⟩
abbrev cX3_hears : ByteArray := prog_5_method_23_code
def yX3_hears : MethodName := ⟨RX3, "hears", "(I)Z"⟩
abbrev cX3_steps : ByteArray := prog_5_method_24_code
def yX3_steps : MethodName := ⟨RX3, "steps", "(LLockedAtDusk$Person;)I"⟩
abbrev cX3_goal : ByteArray := prog_5_method_25_code
def yX3_goal : MethodName := ⟨RX3, "goal", "(LLockedAtDusk$Person;)I"⟩
abbrev cX3_way : ByteArray := prog_5_method_26_code
def yX3_way : MethodName := ⟨RX3, "way", "(II)I"⟩
abbrev cX3_toward : ByteArray := prog_5_method_27_code
def yX3_toward : MethodName := ⟨RX3, "toward", "(III)I"⟩
def RX4 : String := "LockedAtDusk$Person"
def TX4 : u_T := fun k => match k with
  | 0 => ("LockedAtDusk$Person", "kind", "I", false)
  | 1 => ("LockedAtDusk$Person", "v", "I", false)
  | 2 => ("LockedAtDusk$Person", "place", "I", false)
  | 3 => ("LockedAtDusk$Person", "found", "I", false)
  | 4 => ("LockedAtDusk$Person", "called", "Z", false)
  | 5 => ("LockedAtDusk$Person", "out", "Z", false)
  | _ => ("LockedAtDusk$Person", "row", "[I", true)
def tyX4 : Nat → FieldType := fun k => match k with
  | 0 => .int
  | 1 => .int
  | 2 => .int
  | 3 => .int
  | 4 => .boolean
  | 5 => .boolean
  | _ => .array .int
theorem nmX4 : ∀ a, a < 7 → ∀ b, b < 7 → a ≠ b → (TX4 a).2.1 ≠ (TX4 b).2.1 := by decide +kernel
theorem tyX4_ok : ∀ k, k < 7 → parseFieldDescriptor (TX4 k).2.2.1 = some (tyX4 k) := by decide +kernel
abbrev cX4_init : ByteArray := prog_6_method_1_code
def yX4_init : MethodName := ⟨RX4, "<init>", "()V"⟩
abbrev cX4_begin : ByteArray := prog_6_method_2_code
def yX4_begin : MethodName := ⟨RX4, "begin", "(III)V"⟩
abbrev cX4_copyFrom : ByteArray := prog_6_method_3_code
def yX4_copyFrom : MethodName := ⟨RX4, "copyFrom", "(LLockedAtDusk$Person;)V"⟩
def RX5 : String := "LockedAtDusk$Reader"
def TX5 : u_T := fun k => match k with
  | 0 => ("LockedAtDusk$Reader", "text", "[B", true)
  | 1 => ("LockedAtDusk$Reader", "length", "I", false)
  | 2 => ("LockedAtDusk$Reader", "at", "I", false)
  | _ => ("LockedAtDusk$Reader", "dusk", "LLockedAtDusk$Dusk;", false)
def tyX5 : Nat → FieldType := fun k => match k with
  | 0 => .array .byte
  | 1 => .int
  | 2 => .int
  | _ => .object "LockedAtDusk$Dusk"
theorem nmX5 : ∀ a, a < 4 → ∀ b, b < 4 → a ≠ b → (TX5 a).2.1 ≠ (TX5 b).2.1 := by decide +kernel
theorem tyX5_ok : ∀ k, k < 4 → parseFieldDescriptor (TX5 k).2.2.1 = some (tyX5 k) := by decide +kernel
abbrev cX5_init : ByteArray := prog_7_method_1_code
def yX5_init : MethodName := ⟨RX5, "<init>", "()V"⟩
abbrev cX5_addSign : ByteArray := prog_7_method_2_code
def yX5_addSign : MethodName := ⟨RX5, "addSign", "(I)I"⟩
abbrev cX5_readInto : ByteArray := prog_7_method_3_code
def yX5_readInto : MethodName := ⟨RX5, "readInto", "(LLockedAtDusk$Dusk;)I"⟩
abbrev cX5_isNext : ByteArray := prog_7_method_4_code
def yX5_isNext : MethodName := ⟨RX5, "isNext", "(C)Z"⟩
abbrev cX5_skip : ByteArray := prog_7_method_5_code
def yX5_skip : MethodName := ⟨RX5, "skip", "(C)Z"⟩
abbrev cX5_readClause : ByteArray := prog_7_method_6_code
def yX5_readClause : MethodName := ⟨RX5, "readClause", "()Z"⟩
abbrev cX5_readWord : ByteArray := prog_7_method_7_code
def yX5_readWord : MethodName := ⟨RX5, "readWord", "(Ljava/lang/String;)Z"⟩
abbrev cX5_readNumber : ByteArray := prog_7_method_8_code
def yX5_readNumber : MethodName := ⟨RX5, "readNumber", "()I"⟩
abbrev cX5_readEither : ByteArray := prog_7_method_9_code
def yX5_readEither : MethodName := ⟨RX5, "readEither", "(I)Z"⟩
abbrev cX5_readBoth : ByteArray := prog_7_method_10_code
def yX5_readBoth : MethodName := ⟨RX5, "readBoth", "(I)Z"⟩
abbrev cX5_readPart : ByteArray := prog_7_method_11_code
def yX5_readPart : MethodName := ⟨RX5, "readPart", "(I)Z"⟩
abbrev cX5_readBehindNot : ByteArray := prog_7_method_12_code
def yX5_readBehindNot : MethodName := ⟨RX5, "readBehindNot", "(I)Z"⟩
abbrev cX5_readTest : ByteArray := prog_7_method_13_code
def yX5_readTest : MethodName := ⟨RX5, "readTest", "()Z"⟩
abbrev cX5_readOneOf : ByteArray := prog_7_method_14_code
def yX5_readOneOf : MethodName := ⟨RX5, "readOneOf", "(Ljava/lang/String;)I"⟩
def RX6 : String := "LockedAtDusk$Rows"
def TX6 : u_T := fun k => match k with
  | 0 => ("LockedAtDusk$Rows", "first", "[I", true)
  | 1 => ("LockedAtDusk$Rows", "second", "[I", true)
  | 2 => ("LockedAtDusk$Rows", "third", "[I", true)
  | _ => ("LockedAtDusk$Rows", "size", "I", false)
def tyX6 : Nat → FieldType := fun k => match k with
  | 0 => .array .int
  | 1 => .array .int
  | 2 => .array .int
  | _ => .int
theorem nmX6 : ∀ a, a < 4 → ∀ b, b < 4 → a ≠ b → (TX6 a).2.1 ≠ (TX6 b).2.1 := by decide +kernel
theorem tyX6_ok : ∀ k, k < 4 → parseFieldDescriptor (TX6 k).2.2.1 = some (tyX6 k) := by decide +kernel
abbrev cX6_init : ByteArray := prog_8_method_1_code
def yX6_init : MethodName := ⟨RX6, "<init>", "(I)V"⟩
abbrev cX6_isFull : ByteArray := prog_8_method_2_code
def yX6_isFull : MethodName := ⟨RX6, "isFull", "()Z"⟩
abbrev cX6_addRow : ByteArray := prog_8_method_3_code
def yX6_addRow : MethodName := ⟨RX6, "addRow", "(III)I"⟩
abbrev cX6_copyFrom : ByteArray := prog_8_method_4_code
def yX6_copyFrom : MethodName := ⟨RX6, "copyFrom", "(LLockedAtDusk$Rows;)V"⟩
def RX7 : String := "LockedAtDusk$Tape"
def TX7 : u_T := fun k => match k with
  | 0 => ("LockedAtDusk$Tape", "items", "[J", true)
  | 1 => ("LockedAtDusk$Tape", "sort", "I", false)
  | _ => ("LockedAtDusk$Tape", "size", "I", false)
def tyX7 : Nat → FieldType := fun k => match k with
  | 0 => .array .long
  | 1 => .int
  | _ => .int
theorem nmX7 : ∀ a, a < 3 → ∀ b, b < 3 → a ≠ b → (TX7 a).2.1 ≠ (TX7 b).2.1 := by decide +kernel
theorem tyX7_ok : ∀ k, k < 3 → parseFieldDescriptor (TX7 k).2.2.1 = some (tyX7 k) := by decide +kernel
abbrev cX7_init : ByteArray := prog_9_method_1_code
def yX7_init : MethodName := ⟨RX7, "<init>", "()V"⟩
abbrev cX7_become : ByteArray := prog_9_method_2_code
def yX7_become : MethodName := ⟨RX7, "become", "(II)V"⟩
abbrev cX7_hasItem : ByteArray := prog_9_method_3_code
def yX7_hasItem : MethodName := ⟨RX7, "hasItem", "(I)Z"⟩
abbrev cX7_hasItems : ByteArray := prog_9_method_4_code
def yX7_hasItems : MethodName := ⟨RX7, "hasItems", "(II)Z"⟩
abbrev cX7_narrowed : ByteArray := prog_9_method_5_code
def yX7_narrowed : MethodName := ⟨RX7, "narrowed", "(J)J"⟩
def RX8 : String := "LockedAtDusk"
def TX8 : u_T := fun k => match k with
  | 0 => ("LockedAtDusk", "now", "LLockedAtDusk$Park;", true)
  | 1 => ("LockedAtDusk", "trial", "LLockedAtDusk$Park;", true)
  | 2 => ("LockedAtDusk", "seen", "LLockedAtDusk$Rows;", true)
  | 3 => ("LockedAtDusk", "evening", "LLockedAtDusk$Rows;", true)
  | 4 => ("LockedAtDusk", "book", "LLockedAtDusk$Rows;", true)
  | 5 => ("LockedAtDusk", "image", "LLockedAtDusk$Image;", true)
  | 6 => ("LockedAtDusk", "reader", "LLockedAtDusk$Reader;", true)
  | 7 => ("LockedAtDusk", "dusks", "[LLockedAtDusk$Dusk;", true)
  | 8 => ("LockedAtDusk", "acts", "LLockedAtDusk$Acts;", true)
  | 9 => ("LockedAtDusk", "tapes", "[LLockedAtDusk$Tape;", true)
  | _ => ("LockedAtDusk", "duskCount", "I", false)
def tyX8 : Nat → FieldType := fun k => match k with
  | 0 => .object "LockedAtDusk$Park"
  | 1 => .object "LockedAtDusk$Park"
  | 2 => .object "LockedAtDusk$Rows"
  | 3 => .object "LockedAtDusk$Rows"
  | 4 => .object "LockedAtDusk$Rows"
  | 5 => .object "LockedAtDusk$Image"
  | 6 => .object "LockedAtDusk$Reader"
  | 7 => .array (.object "LockedAtDusk$Dusk")
  | 8 => .object "LockedAtDusk$Acts"
  | 9 => .array (.object "LockedAtDusk$Tape")
  | _ => .int
theorem nmX8 : ∀ a, a < 11 → ∀ b, b < 11 → a ≠ b → (TX8 a).2.1 ≠ (TX8 b).2.1 := by decide +kernel
theorem tyX8_ok : ∀ k, k < 11 → parseFieldDescriptor (TX8 k).2.2.1 = some (tyX8 k) := by decide +kernel
abbrev cX8_init : ByteArray := prog_1_method_1_code
def yX8_init : MethodName := ⟨RX8, "<init>", "()V"⟩
abbrev cX8_gate : ByteArray := prog_1_method_2_code
def yX8_gate : MethodName := ⟨RX8, "gate", "(I)I"⟩
abbrev cX8_person : ByteArray := prog_1_method_3_code
def yX8_person : MethodName := ⟨RX8, "person", "(III)I"⟩
abbrev cX8_of : ByteArray := prog_1_method_4_code
def yX8_of : MethodName := ⟨RX8, "of", "(II)I"⟩
abbrev cX8_put : ByteArray := prog_1_method_5_code
def yX8_put : MethodName := ⟨RX8, "put", "(II)I"⟩
abbrev cX8_call : ByteArray := prog_1_method_6_code
def yX8_call : MethodName := ⟨RX8, "call", "(IZ)I"⟩
abbrev cX8_shut : ByteArray := prog_1_method_7_code
def yX8_shut : MethodName := ⟨RX8, "shut", "(IZ)I"⟩
abbrev cX8_row : ByteArray := prog_1_method_8_code
def yX8_row : MethodName := ⟨RX8, "row", "(III)I"⟩
abbrev cX8_round : ByteArray := prog_1_method_9_code
def yX8_round : MethodName := ⟨RX8, "round", "(I)I"⟩
abbrev cX8_feed : ByteArray := prog_1_method_10_code
def yX8_feed : MethodName := ⟨RX8, "feed", "(I)I"⟩
abbrev cX8_dusk : ByteArray := prog_1_method_11_code
def yX8_dusk : MethodName := ⟨RX8, "dusk", "()I"⟩
abbrev cX8_told : ByteArray := prog_1_method_12_code
def yX8_told : MethodName := ⟨RX8, "told", "(I)I"⟩
abbrev cX8_pass : ByteArray := prog_1_method_13_code
def yX8_pass : MethodName := ⟨RX8, "pass", "(I)I"⟩
abbrev cX8_on : ByteArray := prog_1_method_14_code
def yX8_on : MethodName := ⟨RX8, "on", "(II)I"⟩
abbrev cX8_clear : ByteArray := prog_1_method_15_code
def yX8_clear : MethodName := ⟨RX8, "clear", "()I"⟩
abbrev cX8_stay : ByteArray := prog_1_method_16_code
def yX8_stay : MethodName := ⟨RX8, "stay", "()I"⟩
abbrev cX8_best : ByteArray := prog_1_method_17_code
def yX8_best : MethodName := ⟨RX8, "best", "(I)I"⟩
abbrev cX8_bestChange : ByteArray := prog_1_method_18_code
def yX8_bestChange : MethodName := ⟨RX8, "bestChange", "(II)I"⟩
abbrev cX8_canChange : ByteArray := prog_1_method_19_code
def yX8_canChange : MethodName := ⟨RX8, "canChange", "(II)Z"⟩
abbrev cX8_makeChange : ByteArray := prog_1_method_20_code
def yX8_makeChange : MethodName := ⟨RX8, "makeChange", "(II)V"⟩
abbrev cX8_hides : ByteArray := prog_1_method_21_code
def yX8_hides : MethodName := ⟨RX8, "hides", "(I)I"⟩
abbrev cX8_see : ByteArray := prog_1_method_22_code
def yX8_see : MethodName := ⟨RX8, "see", "(IZI)I"⟩
abbrev cX8_where : ByteArray := prog_1_method_23_code
def yX8_where : MethodName := ⟨RX8, "where", "(II)I"⟩
abbrev cX8_can : ByteArray := prog_1_method_24_code
def yX8_can : MethodName := ⟨RX8, "can", "(II)I"⟩
abbrev cX8_trialIsAsSeen : ByteArray := prog_1_method_25_code
def yX8_trialIsAsSeen : MethodName := ⟨RX8, "trialIsAsSeen", "()Z"⟩
abbrev cX8_leastOf : ByteArray := prog_1_method_26_code
def yX8_leastOf : MethodName := ⟨RX8, "leastOf", "(I)I"⟩
abbrev cX8_odds : ByteArray := prog_1_method_27_code
def yX8_odds : MethodName := ⟨RX8, "odds", "(II)J"⟩
abbrev cX8_mean : ByteArray := prog_1_method_28_code
def yX8_mean : MethodName := ⟨RX8, "mean", "(II)J"⟩
abbrev cX8_fractionPart : ByteArray := prog_1_method_29_code
def yX8_fractionPart : MethodName := ⟨RX8, "fractionPart", "(III)J"⟩
abbrev cX8_commonDivisor : ByteArray := prog_1_method_30_code
def yX8_commonDivisor : MethodName := ⟨RX8, "commonDivisor", "(II)I"⟩
abbrev cX8_evening : ByteArray := prog_1_method_31_code
def yX8_evening : MethodName := ⟨RX8, "evening", "(II)I"⟩
abbrev cX8_gone : ByteArray := prog_1_method_32_code
def yX8_gone : MethodName := ⟨RX8, "gone", "(I)I"⟩
abbrev cX8_book : ByteArray := prog_1_method_33_code
def yX8_book : MethodName := ⟨RX8, "book", "(II)I"⟩
abbrev cX8_looked : ByteArray := prog_1_method_34_code
def yX8_looked : MethodName := ⟨RX8, "looked", "()I"⟩
abbrev cX8_judge : ByteArray := prog_1_method_35_code
def yX8_judge : MethodName := ⟨RX8, "judge", "(II)I"⟩
abbrev cX8_image : ByteArray := prog_1_method_36_code
def yX8_image : MethodName := ⟨RX8, "image", "()I"⟩
abbrev cX8_undo : ByteArray := prog_1_method_37_code
def yX8_undo : MethodName := ⟨RX8, "undo", "()I"⟩
abbrev cX8_act : ByteArray := prog_1_method_38_code
def yX8_act : MethodName := ⟨RX8, "act", "(III)I"⟩
abbrev cX8_trace : ByteArray := prog_1_method_39_code
def yX8_trace : MethodName := ⟨RX8, "trace", "(I)I"⟩
abbrev cX8_taken : ByteArray := prog_1_method_40_code
def yX8_taken : MethodName := ⟨RX8, "taken", "(II)I"⟩
abbrev cX8_isUnder : ByteArray := prog_1_method_41_code
def yX8_isUnder : MethodName := ⟨RX8, "isUnder", "(II)Z"⟩
abbrev cX8_count : ByteArray := prog_1_method_42_code
def yX8_count : MethodName := ⟨RX8, "count", "(I)I"⟩
abbrev cX8_tape : ByteArray := prog_1_method_43_code
def yX8_tape : MethodName := ⟨RX8, "tape", "(III)I"⟩
abbrev cX8_item : ByteArray := prog_1_method_44_code
def yX8_item : MethodName := ⟨RX8, "item", "(IIJ)I"⟩
abbrev cX8_read : ByteArray := prog_1_method_45_code
def yX8_read : MethodName := ⟨RX8, "read", "(II)J"⟩
abbrev cX8_shift : ByteArray := prog_1_method_46_code
def yX8_shift : MethodName := ⟨RX8, "shift", "(IIIII)I"⟩
abbrev cX8_isPlace : ByteArray := prog_1_method_47_code
def yX8_isPlace : MethodName := ⟨RX8, "isPlace", "(I)Z"⟩
abbrev cX8_isDigit : ByteArray := prog_1_method_48_code
def yX8_isDigit : MethodName := ⟨RX8, "isDigit", "(I)Z"⟩
abbrev cX8_isPart : ByteArray := prog_1_method_49_code
def yX8_isPart : MethodName := ⟨RX8, "isPart", "(I)Z"⟩
abbrev cX8_isTape : ByteArray := prog_1_method_50_code
def yX8_isTape : MethodName := ⟨RX8, "isTape", "(I)Z"⟩
abbrev cX8_bit : ByteArray := prog_1_method_51_code
def yX8_bit : MethodName := ⟨RX8, "bit", "(Z)I"⟩
def RX9 : String := "LockedAtDuskModel"
def TX9 : u_T := fun k => match k with
  | 0 => ("LockedAtDuskModel", "gates", "I", false)
  | 1 => ("LockedAtDuskModel", "people", "I", false)
  | 2 => ("LockedAtDuskModel", "minutes", "I", false)
  | 3 => ("LockedAtDuskModel", "closed", "I", false)
  | 4 => ("LockedAtDuskModel", "called", "I", false)
  | 5 => ("LockedAtDuskModel", "gone0", "I", false)
  | 6 => ("LockedAtDuskModel", "keeper", "I", false)
  | 7 => ("LockedAtDuskModel", "done", "I", false)
  | 8 => ("LockedAtDuskModel", "rounds", "I", false)
  | 9 => ("LockedAtDuskModel", "gateAt", "[I", true)
  | 10 => ("LockedAtDuskModel", "kind", "[I", true)
  | 11 => ("LockedAtDuskModel", "v", "[I", true)
  | 12 => ("LockedAtDuskModel", "where0", "[I", true)
  | 13 => ("LockedAtDuskModel", "found", "[I", true)
  | 14 => ("LockedAtDuskModel", "rows", "[I", true)
  | 15 => ("LockedAtDuskModel", "tour", "[I", true)
  | 16 => ("LockedAtDuskModel", "dusks", "I", false)
  | 17 => ("LockedAtDuskModel", "the", "I", false)
  | 18 => ("LockedAtDuskModel", "fed", "I", false)
  | 19 => ("LockedAtDuskModel", "at", "I", false)
  | 20 => ("LockedAtDuskModel", "digits", "I", false)
  | 21 => ("LockedAtDuskModel", "text", "[I", true)
  | 22 => ("LockedAtDuskModel", "clauses", "[I", true)
  | 23 => ("LockedAtDuskModel", "word", "[I", true)
  | 24 => ("LockedAtDuskModel", "number", "[I", true)
  | 25 => ("LockedAtDuskModel", "from", "[I", true)
  | 26 => ("LockedAtDuskModel", "to", "[I", true)
  | 27 => ("LockedAtDuskModel", "sign", "[I", true)
  | 28 => ("LockedAtDuskModel", "waits", "[I", true)
  | 29 => ("LockedAtDuskModel", "signs", "I", false)
  | 30 => ("LockedAtDuskModel", "waiting", "I", false)
  | 31 => ("LockedAtDuskModel", "open", "I", false)
  | 32 => ("LockedAtDuskModel", "letters", "[I", true)
  | 33 => ("LockedAtDuskModel", "paceInMind", "I", false)
  | 34 => ("LockedAtDuskModel", "waitInMind", "I", false)
  | 35 => ("LockedAtDuskModel", "openInMind", "I", false)
  | 36 => ("LockedAtDuskModel", "pile", "[Z", true)
  | 37 => ("LockedAtDuskModel", "thenAt", "[I", true)
  | 38 => ("LockedAtDuskModel", "thenCalled", "I", false)
  | 39 => ("LockedAtDuskModel", "thenGone", "I", false)
  | 40 => ("LockedAtDuskModel", "keptMinutes", "I", false)
  | 41 => ("LockedAtDuskModel", "keptClosed", "I", false)
  | 42 => ("LockedAtDuskModel", "keptCalled", "I", false)
  | 43 => ("LockedAtDuskModel", "keptGone", "I", false)
  | 44 => ("LockedAtDuskModel", "keptKeeper", "I", false)
  | 45 => ("LockedAtDuskModel", "keptDone", "I", false)
  | 46 => ("LockedAtDuskModel", "keptAt", "[I", true)
  | 47 => ("LockedAtDuskModel", "keptFound", "[I", true)
  | 48 => ("LockedAtDuskModel", "keptTour", "[I", true)
  | 49 => ("LockedAtDuskModel", "seen", "I", false)
  | 50 => ("LockedAtDuskModel", "seenWho", "[I", true)
  | 51 => ("LockedAtDuskModel", "seenWhen", "[I", true)
  | 52 => ("LockedAtDuskModel", "seenOut", "[Z", true)
  | 53 => ("LockedAtDuskModel", "evenings", "I", false)
  | 54 => ("LockedAtDuskModel", "books", "I", false)
  | 55 => ("LockedAtDuskModel", "eveningWhat", "[I", true)
  | 56 => ("LockedAtDuskModel", "eveningNumber", "[I", true)
  | 57 => ("LockedAtDuskModel", "bookWho", "[I", true)
  | 58 => ("LockedAtDuskModel", "bookAt", "[I", true)
  | 59 => ("LockedAtDuskModel", "hasImage", "Z", false)
  | 60 => ("LockedAtDuskModel", "imageThe", "I", false)
  | 61 => ("LockedAtDuskModel", "imageGates", "I", false)
  | 62 => ("LockedAtDuskModel", "imagePeople", "I", false)
  | 63 => ("LockedAtDuskModel", "imageMinutes", "I", false)
  | 64 => ("LockedAtDuskModel", "imageClosed", "I", false)
  | 65 => ("LockedAtDuskModel", "imageCalled", "I", false)
  | 66 => ("LockedAtDuskModel", "imageGone", "I", false)
  | 67 => ("LockedAtDuskModel", "imageKeeper", "I", false)
  | 68 => ("LockedAtDuskModel", "imageDone", "I", false)
  | 69 => ("LockedAtDuskModel", "imageRounds", "I", false)
  | 70 => ("LockedAtDuskModel", "imageSeen", "I", false)
  | 71 => ("LockedAtDuskModel", "imageEvenings", "I", false)
  | 72 => ("LockedAtDuskModel", "imageBooks", "I", false)
  | 73 => ("LockedAtDuskModel", "imageGateAt", "[I", true)
  | 74 => ("LockedAtDuskModel", "imageKind", "[I", true)
  | 75 => ("LockedAtDuskModel", "imageV", "[I", true)
  | 76 => ("LockedAtDuskModel", "imageAt", "[I", true)
  | 77 => ("LockedAtDuskModel", "imageFound", "[I", true)
  | 78 => ("LockedAtDuskModel", "imageTour", "[I", true)
  | 79 => ("LockedAtDuskModel", "imageRows", "[I", true)
  | 80 => ("LockedAtDuskModel", "imageWho", "[I", true)
  | 81 => ("LockedAtDuskModel", "imageWhen", "[I", true)
  | 82 => ("LockedAtDuskModel", "imageWhat", "[I", true)
  | 83 => ("LockedAtDuskModel", "imageNumber", "[I", true)
  | 84 => ("LockedAtDuskModel", "imageBookWho", "[I", true)
  | 85 => ("LockedAtDuskModel", "imageBookAt", "[I", true)
  | 86 => ("LockedAtDuskModel", "imageOut", "[Z", true)
  | 87 => ("LockedAtDuskModel", "ran", "I", false)
  | 88 => ("LockedAtDuskModel", "bodies", "[I", true)
  | 89 => ("LockedAtDuskModel", "sort", "[I", true)
  | 90 => ("LockedAtDuskModel", "length", "[I", true)
  | 91 => ("LockedAtDuskModel", "item", "[J", true)
  | _ => ("LockedAtDuskModel", "aside", "[J", true)
def tyX9 : Nat → FieldType := fun k => match k with
  | 0 => .int
  | 1 => .int
  | 2 => .int
  | 3 => .int
  | 4 => .int
  | 5 => .int
  | 6 => .int
  | 7 => .int
  | 8 => .int
  | 9 => .array .int
  | 10 => .array .int
  | 11 => .array .int
  | 12 => .array .int
  | 13 => .array .int
  | 14 => .array .int
  | 15 => .array .int
  | 16 => .int
  | 17 => .int
  | 18 => .int
  | 19 => .int
  | 20 => .int
  | 21 => .array .int
  | 22 => .array .int
  | 23 => .array .int
  | 24 => .array .int
  | 25 => .array .int
  | 26 => .array .int
  | 27 => .array .int
  | 28 => .array .int
  | 29 => .int
  | 30 => .int
  | 31 => .int
  | 32 => .array .int
  | 33 => .int
  | 34 => .int
  | 35 => .int
  | 36 => .array .boolean
  | 37 => .array .int
  | 38 => .int
  | 39 => .int
  | 40 => .int
  | 41 => .int
  | 42 => .int
  | 43 => .int
  | 44 => .int
  | 45 => .int
  | 46 => .array .int
  | 47 => .array .int
  | 48 => .array .int
  | 49 => .int
  | 50 => .array .int
  | 51 => .array .int
  | 52 => .array .boolean
  | 53 => .int
  | 54 => .int
  | 55 => .array .int
  | 56 => .array .int
  | 57 => .array .int
  | 58 => .array .int
  | 59 => .boolean
  | 60 => .int
  | 61 => .int
  | 62 => .int
  | 63 => .int
  | 64 => .int
  | 65 => .int
  | 66 => .int
  | 67 => .int
  | 68 => .int
  | 69 => .int
  | 70 => .int
  | 71 => .int
  | 72 => .int
  | 73 => .array .int
  | 74 => .array .int
  | 75 => .array .int
  | 76 => .array .int
  | 77 => .array .int
  | 78 => .array .int
  | 79 => .array .int
  | 80 => .array .int
  | 81 => .array .int
  | 82 => .array .int
  | 83 => .array .int
  | 84 => .array .int
  | 85 => .array .int
  | 86 => .array .boolean
  | 87 => .int
  | 88 => .array .int
  | 89 => .array .int
  | 90 => .array .int
  | 91 => .array .long
  | _ => .array .long
theorem nmX9 : ∀ a, a < 93 → ∀ b, b < 93 → a ≠ b → (TX9 a).2.1 ≠ (TX9 b).2.1 := by decide +kernel
theorem tyX9_ok : ∀ k, k < 93 → parseFieldDescriptor (TX9 k).2.2.1 = some (tyX9 k) := by decide +kernel
abbrev cX9_init : ByteArray := prog_11_method_1_code
def yX9_init : MethodName := ⟨RX9, "<init>", "()V"⟩
abbrev cX9_in : ByteArray := prog_11_method_2_code
def yX9_in : MethodName := ⟨RX9, "in", "(III)Z"⟩
abbrev cX9_has : ByteArray := prog_11_method_3_code
def yX9_has : MethodName := ⟨RX9, "has", "(II)Z"⟩
abbrev cX9_with0 : ByteArray := prog_11_method_4_code
def yX9_with0 : MethodName := ⟨RX9, "with0", "(IIZ)I"⟩
abbrev cX9_ones : ByteArray := prog_11_method_5_code
def yX9_ones : MethodName := ⟨RX9, "ones", "(I)I"⟩
abbrev cX9_isGate : ByteArray := prog_11_method_6_code
def yX9_isGate : MethodName := ⟨RX9, "isGate", "(I)Z"⟩
abbrev cX9_isPerson : ByteArray := prog_11_method_7_code
def yX9_isPerson : MethodName := ⟨RX9, "isPerson", "(I)Z"⟩
abbrev cX9_isPlace : ByteArray := prog_11_method_8_code
def yX9_isPlace : MethodName := ⟨RX9, "isPlace", "(I)Z"⟩
abbrev cX9_isMinutes : ByteArray := prog_11_method_9_code
def yX9_isMinutes : MethodName := ⟨RX9, "isMinutes", "(I)Z"⟩
abbrev cX9_gate : ByteArray := prog_11_method_10_code
def yX9_gate : MethodName := ⟨RX9, "gate", "(I)I"⟩
abbrev cX9_person : ByteArray := prog_11_method_11_code
def yX9_person : MethodName := ⟨RX9, "person", "(III)I"⟩
abbrev cX9_puts : ByteArray := prog_11_method_12_code
def yX9_puts : MethodName := ⟨RX9, "puts", "(II)V"⟩
abbrev cX9_put : ByteArray := prog_11_method_13_code
def yX9_put : MethodName := ⟨RX9, "put", "(II)I"⟩
abbrev cX9_call : ByteArray := prog_11_method_14_code
def yX9_call : MethodName := ⟨RX9, "call", "(IZ)I"⟩
abbrev cX9_shut : ByteArray := prog_11_method_15_code
def yX9_shut : MethodName := ⟨RX9, "shut", "(IZ)I"⟩
abbrev cX9_row : ByteArray := prog_11_method_16_code
def yX9_row : MethodName := ⟨RX9, "row", "(III)I"⟩
abbrev cX9_round : ByteArray := prog_11_method_17_code
def yX9_round : MethodName := ⟨RX9, "round", "(I)I"⟩
abbrev cX9_feed : ByteArray := prog_11_method_18_code
def yX9_feed : MethodName := ⟨RX9, "feed", "(I)I"⟩
abbrev cX9_next : ByteArray := prog_11_method_19_code
def yX9_next : MethodName := ⟨RX9, "next", "()I"⟩
abbrev cX9_takes : ByteArray := prog_11_method_20_code
def yX9_takes : MethodName := ⟨RX9, "takes", "(I)Z"⟩
abbrev cX9_takesWord : ByteArray := prog_11_method_21_code
def yX9_takesWord : MethodName := ⟨RX9, "takesWord", "(II)Z"⟩
abbrev cX9_isDigit : ByteArray := prog_11_method_22_code
def yX9_isDigit : MethodName := ⟨RX9, "isDigit", "()Z"⟩
abbrev cX9_takesNumber : ByteArray := prog_11_method_23_code
def yX9_takesNumber : MethodName := ⟨RX9, "takesNumber", "()Z"⟩
abbrev cX9_emits : ByteArray := prog_11_method_24_code
def yX9_emits : MethodName := ⟨RX9, "emits", "(I)V"⟩
abbrev cX9_whole : ByteArray := prog_11_method_25_code
def yX9_whole : MethodName := ⟨RX9, "whole", "()V"⟩
abbrev cX9_settle : ByteArray := prog_11_method_26_code
def yX9_settle : MethodName := ⟨RX9, "settle", "(I)V"⟩
abbrev cX9_place : ByteArray := prog_11_method_27_code
def yX9_place : MethodName := ⟨RX9, "place", "(I)I"⟩
abbrev cX9_takesTest : ByteArray := prog_11_method_28_code
def yX9_takesTest : MethodName := ⟨RX9, "takesTest", "()Z"⟩
abbrev cX9_takesE : ByteArray := prog_11_method_29_code
def yX9_takesE : MethodName := ⟨RX9, "takesE", "(I)Z"⟩
abbrev cX9_takesHead : ByteArray := prog_11_method_30_code
def yX9_takesHead : MethodName := ⟨RX9, "takesHead", "(I)Z"⟩
abbrev cX9_takesClause : ByteArray := prog_11_method_31_code
def yX9_takesClause : MethodName := ⟨RX9, "takesClause", "(I)Z"⟩
abbrev cX9_goesText : ByteArray := prog_11_method_32_code
def yX9_goesText : MethodName := ⟨RX9, "goesText", "(I)Z"⟩
abbrev cX9_dusk : ByteArray := prog_11_method_33_code
def yX9_dusk : MethodName := ⟨RX9, "dusk", "()I"⟩
abbrev cX9_begin : ByteArray := prog_11_method_34_code
def yX9_begin : MethodName := ⟨RX9, "begin", "()I"⟩
abbrev cX9_behind : ByteArray := prog_11_method_35_code
def yX9_behind : MethodName := ⟨RX9, "behind", "()I"⟩
abbrev cX9_lastOf : ByteArray := prog_11_method_36_code
def yX9_lastOf : MethodName := ⟨RX9, "lastOf", "(II)I"⟩
abbrev cX9_pace : ByteArray := prog_11_method_37_code
def yX9_pace : MethodName := ⟨RX9, "pace", "()I"⟩
abbrev cX9_factOf : ByteArray := prog_11_method_38_code
def yX9_factOf : MethodName := ⟨RX9, "factOf", "(II)I"⟩
abbrev cX9_holds : ByteArray := prog_11_method_39_code
def yX9_holds : MethodName := ⟨RX9, "holds", "(II)Z"⟩
abbrev cX9_ears : ByteArray := prog_11_method_40_code
def yX9_ears : MethodName := ⟨RX9, "ears", "(I)I"⟩
abbrev cX9_up : ByteArray := prog_11_method_41_code
def yX9_up : MethodName := ⟨RX9, "up", "(II)I"⟩
abbrev cX9_way : ByteArray := prog_11_method_42_code
def yX9_way : MethodName := ⟨RX9, "way", "(II)I"⟩
abbrev cX9_toward : ByteArray := prog_11_method_43_code
def yX9_toward : MethodName := ⟨RX9, "toward", "(III)I"⟩
abbrev cX9_hears : ByteArray := prog_11_method_44_code
def yX9_hears : MethodName := ⟨RX9, "hears", "(I)Z"⟩
abbrev cX9_steps : ByteArray := prog_11_method_45_code
def yX9_steps : MethodName := ⟨RX9, "steps", "(I)I"⟩
abbrev cX9_goal : ByteArray := prog_11_method_46_code
def yX9_goal : MethodName := ⟨RX9, "goal", "(I)I"⟩
abbrev cX9_of : ByteArray := prog_11_method_47_code
def yX9_of : MethodName := ⟨RX9, "of", "(II)I"⟩
abbrev cX9_told : ByteArray := prog_11_method_48_code
def yX9_told : MethodName := ⟨RX9, "told", "(I)I"⟩
abbrev cX9_goPerson : ByteArray := prog_11_method_49_code
def yX9_goPerson : MethodName := ⟨RX9, "goPerson", "(I)V"⟩
abbrev cX9_goKeeper : ByteArray := prog_11_method_50_code
def yX9_goKeeper : MethodName := ⟨RX9, "goKeeper", "()V"⟩
abbrev cX9_goMinute : ByteArray := prog_11_method_51_code
def yX9_goMinute : MethodName := ⟨RX9, "goMinute", "()V"⟩
abbrev cX9_goMinutes : ByteArray := prog_11_method_52_code
def yX9_goMinutes : MethodName := ⟨RX9, "goMinutes", "(I)V"⟩
abbrev cX9_pass : ByteArray := prog_11_method_53_code
def yX9_pass : MethodName := ⟨RX9, "pass", "(I)I"⟩
abbrev cX9_save : ByteArray := prog_11_method_54_code
def yX9_save : MethodName := ⟨RX9, "save", "()V"⟩
abbrev cX9_putBack : ByteArray := prog_11_method_55_code
def yX9_putBack : MethodName := ⟨RX9, "putBack", "()V"⟩
abbrev cX9_on : ByteArray := prog_11_method_56_code
def yX9_on : MethodName := ⟨RX9, "on", "(II)I"⟩
abbrev cX9_all : ByteArray := prog_11_method_57_code
def yX9_all : MethodName := ⟨RX9, "all", "()I"⟩
abbrev cX9_clear : ByteArray := prog_11_method_58_code
def yX9_clear : MethodName := ⟨RX9, "clear", "()I"⟩
abbrev cX9_stay : ByteArray := prog_11_method_59_code
def yX9_stay : MethodName := ⟨RX9, "stay", "()I"⟩
abbrev cX9_leftThen : ByteArray := prog_11_method_60_code
def yX9_leftThen : MethodName := ⟨RX9, "leftThen", "()I"⟩
abbrev cX9_left : ByteArray := prog_11_method_61_code
def yX9_left : MethodName := ⟨RX9, "left", "()I"⟩
abbrev cX9_firstOf : ByteArray := prog_11_method_62_code
def yX9_firstOf : MethodName := ⟨RX9, "firstOf", "()I"⟩
abbrev cX9_swapOf : ByteArray := prog_11_method_63_code
def yX9_swapOf : MethodName := ⟨RX9, "swapOf", "()I"⟩
abbrev cX9_quickOf : ByteArray := prog_11_method_64_code
def yX9_quickOf : MethodName := ⟨RX9, "quickOf", "()I"⟩
abbrev cX9_waitOf : ByteArray := prog_11_method_65_code
def yX9_waitOf : MethodName := ⟨RX9, "waitOf", "()I"⟩
abbrev cX9_openOf : ByteArray := prog_11_method_66_code
def yX9_openOf : MethodName := ⟨RX9, "openOf", "()I"⟩
abbrev cX9_best : ByteArray := prog_11_method_67_code
def yX9_best : MethodName := ⟨RX9, "best", "(I)I"⟩
abbrev cX9_hides : ByteArray := prog_11_method_68_code
def yX9_hides : MethodName := ⟨RX9, "hides", "(I)I"⟩
abbrev cX9_see : ByteArray := prog_11_method_69_code
def yX9_see : MethodName := ⟨RX9, "see", "(IZI)I"⟩
abbrev cX9_isSeen : ByteArray := prog_11_method_70_code
def yX9_isSeen : MethodName := ⟨RX9, "isSeen", "(II)Z"⟩
abbrev cX9_where : ByteArray := prog_11_method_71_code
def yX9_where : MethodName := ⟨RX9, "where", "(II)I"⟩
abbrev cX9_can : ByteArray := prog_11_method_72_code
def yX9_can : MethodName := ⟨RX9, "can", "(II)I"⟩
abbrev cX9_divisor : ByteArray := prog_11_method_73_code
def yX9_divisor : MethodName := ⟨RX9, "divisor", "(II)I"⟩
abbrev cX9_lowest : ByteArray := prog_11_method_74_code
def yX9_lowest : MethodName := ⟨RX9, "lowest", "(III)J"⟩
abbrev cX9_odds : ByteArray := prog_11_method_75_code
def yX9_odds : MethodName := ⟨RX9, "odds", "(II)J"⟩
abbrev cX9_mean : ByteArray := prog_11_method_76_code
def yX9_mean : MethodName := ⟨RX9, "mean", "(II)J"⟩
abbrev cX9_evening : ByteArray := prog_11_method_77_code
def yX9_evening : MethodName := ⟨RX9, "evening", "(II)I"⟩
abbrev cX9_gone : ByteArray := prog_11_method_78_code
def yX9_gone : MethodName := ⟨RX9, "gone", "(I)I"⟩
abbrev cX9_book : ByteArray := prog_11_method_79_code
def yX9_book : MethodName := ⟨RX9, "book", "(II)I"⟩
abbrev cX9_looked : ByteArray := prog_11_method_80_code
def yX9_looked : MethodName := ⟨RX9, "looked", "()I"⟩
abbrev cX9_judge : ByteArray := prog_11_method_81_code
def yX9_judge : MethodName := ⟨RX9, "judge", "(II)I"⟩
abbrev cX9_image : ByteArray := prog_11_method_82_code
def yX9_image : MethodName := ⟨RX9, "image", "()I"⟩
abbrev cX9_undo : ByteArray := prog_11_method_83_code
def yX9_undo : MethodName := ⟨RX9, "undo", "()I"⟩
abbrev cX9_body : ByteArray := prog_11_method_84_code
def yX9_body : MethodName := ⟨RX9, "body", "(I)V"⟩
abbrev cX9_personWaits : ByteArray := prog_11_method_85_code
def yX9_personWaits : MethodName := ⟨RX9, "personWaits", "(II)I"⟩
abbrev cX9_waitsAct : ByteArray := prog_11_method_86_code
def yX9_waitsAct : MethodName := ⟨RX9, "waitsAct", "(II)I"⟩
abbrev cX9_personWalks : ByteArray := prog_11_method_87_code
def yX9_personWalks : MethodName := ⟨RX9, "personWalks", "(II)I"⟩
abbrev cX9_oldWalks : ByteArray := prog_11_method_88_code
def yX9_oldWalks : MethodName := ⟨RX9, "oldWalks", "(II)I"⟩
abbrev cX9_walksAct : ByteArray := prog_11_method_89_code
def yX9_walksAct : MethodName := ⟨RX9, "walksAct", "(II)I"⟩
abbrev cX9_personTells : ByteArray := prog_11_method_90_code
def yX9_personTells : MethodName := ⟨RX9, "personTells", "(II)I"⟩
abbrev cX9_tellsAct : ByteArray := prog_11_method_91_code
def yX9_tellsAct : MethodName := ⟨RX9, "tellsAct", "(II)I"⟩
abbrev cX9_act : ByteArray := prog_11_method_92_code
def yX9_act : MethodName := ⟨RX9, "act", "(III)I"⟩
abbrev cX9_trace : ByteArray := prog_11_method_93_code
def yX9_trace : MethodName := ⟨RX9, "trace", "(I)I"⟩
abbrev cX9_taken : ByteArray := prog_11_method_94_code
def yX9_taken : MethodName := ⟨RX9, "taken", "(II)I"⟩
abbrev cX9_count : ByteArray := prog_11_method_95_code
def yX9_count : MethodName := ⟨RX9, "count", "(I)I"⟩
abbrev cX9_isTape : ByteArray := prog_11_method_96_code
def yX9_isTape : MethodName := ⟨RX9, "isTape", "(I)Z"⟩
abbrev cX9_tape : ByteArray := prog_11_method_97_code
def yX9_tape : MethodName := ⟨RX9, "tape", "(III)I"⟩
abbrev cX9_narrow : ByteArray := prog_11_method_98_code
def yX9_narrow : MethodName := ⟨RX9, "narrow", "(IJ)J"⟩
abbrev cX9_item : ByteArray := prog_11_method_99_code
def yX9_item : MethodName := ⟨RX9, "item", "(IIJ)I"⟩
abbrev cX9_read : ByteArray := prog_11_method_100_code
def yX9_read : MethodName := ⟨RX9, "read", "(II)J"⟩
abbrev cX9_shift : ByteArray := prog_11_method_101_code
def yX9_shift : MethodName := ⟨RX9, "shift", "(IIIII)I"⟩
def RJ11 : String := "java/lang/Character"
abbrev cJ11_isValidCodePoint_9a6ad : ByteArray := prog_12_method_11_code
def yJ11_isValidCodePoint_9a6ad : MethodName := ⟨RJ11, "isValidCodePoint", "(I)Z"⟩
abbrev cJ11_highSurrogate_5068e : ByteArray := prog_12_method_28_code
def yJ11_highSurrogate_5068e : MethodName := ⟨RJ11, "highSurrogate", "(I)C"⟩
abbrev cJ11_lowSurrogate_5068e : ByteArray := prog_12_method_29_code
def yJ11_lowSurrogate_5068e : MethodName := ⟨RJ11, "lowSurrogate", "(I)C"⟩
def RJ6 : String := "java/lang/Integer"
abbrev cJ6_numberOfTrailingZeros_0f7a4 : ByteArray := prog_13_method_48_code
def yJ6_numberOfTrailingZeros_0f7a4 : MethodName := ⟨RJ6, "numberOfTrailingZeros", "(I)I"⟩
abbrev cJ6_bitCount_0f7a4 : ByteArray := prog_13_method_49_code
def yJ6_bitCount_0f7a4 : MethodName := ⟨RJ6, "bitCount", "(I)I"⟩
def RJ9 : String := "java/lang/Math"
abbrev cJ9_floorMod_7cf53 : ByteArray := prog_14_method_50_code
def yJ9_floorMod_7cf53 : MethodName := ⟨RJ9, "floorMod", "(II)I"⟩
abbrev cJ9_max_7cf53 : ByteArray := prog_14_method_65_code
def yJ9_max_7cf53 : MethodName := ⟨RJ9, "max", "(II)I"⟩
abbrev cJ9_min_7cf53 : ByteArray := prog_14_method_69_code
def yJ9_min_7cf53 : MethodName := ⟨RJ9, "min", "(II)I"⟩
def RJ0 : String := "java/lang/String"
abbrev cJ0_length_8abf5 : ByteArray := prog_15_method_54_code
def yJ0_length_8abf5 : MethodName := ⟨RJ0, "length", "()I"⟩
abbrev cJ0_charAt_5068e : ByteArray := prog_15_method_56_code
def yJ0_charAt_5068e : MethodName := ⟨RJ0, "charAt", "(I)C"⟩
abbrev cJ0_indexOf_0f7a4 : ByteArray := prog_15_method_79_code
def yJ0_indexOf_0f7a4 : MethodName := ⟨RJ0, "indexOf", "(I)I"⟩
abbrev cJ0_indexOf_7cf53 : ByteArray := prog_15_method_80_code
def yJ0_indexOf_7cf53 : MethodName := ⟨RJ0, "indexOf", "(II)I"⟩
abbrev cJ0_coder_7d493 : ByteArray := prog_15_method_152_code
def yJ0_coder_7d493 : MethodName := ⟨RJ0, "coder", "()B"⟩
abbrev cJ0_isLatin1_aae02 : ByteArray := prog_15_method_154_code
def yJ0_isLatin1_aae02 : MethodName := ⟨RJ0, "isLatin1", "()Z"⟩
abbrev cJ0_checkIndex_df160 : ByteArray := prog_15_method_155_code
def yJ0_checkIndex_df160 : MethodName := ⟨RJ0, "checkIndex", "(II)V"⟩
abbrev cJ0_checkBoundsBeginEnd_23922 : ByteArray := prog_15_method_158_code
def yJ0_checkBoundsBeginEnd_23922 : MethodName := ⟨RJ0, "checkBoundsBeginEnd", "(III)V"⟩
def RJ1 : String := "java/lang/StringLatin1"
abbrev cJ1_charAt_3b067 : ByteArray := prog_16_method_2_code
def yJ1_charAt_3b067 : MethodName := ⟨RJ1, "charAt", "([BI)C"⟩
abbrev cJ1_canEncode_9a6ad : ByteArray := prog_16_method_4_code
def yJ1_canEncode_9a6ad : MethodName := ⟨RJ1, "canEncode", "(I)Z"⟩
abbrev cJ1_indexOf_4cfef : ByteArray := prog_16_method_22_code
def yJ1_indexOf_4cfef : MethodName := ⟨RJ1, "indexOf", "([BIII)I"⟩
abbrev cJ1_indexOfChar_4cfef : ByteArray := prog_16_method_23_code
def yJ1_indexOfChar_4cfef : MethodName := ⟨RJ1, "indexOfChar", "([BIII)I"⟩
def RJ2 : String := "java/lang/StringUTF16"
abbrev cJ2_getChar_3b067 : ByteArray := prog_17_method_5_code
def yJ2_getChar_3b067 : MethodName := ⟨RJ2, "getChar", "([BI)C"⟩
abbrev cJ2_length_9d52b : ByteArray := prog_17_method_6_code
def yJ2_length_9d52b : MethodName := ⟨RJ2, "length", "([B)I"⟩
abbrev cJ2_indexOf_4cfef : ByteArray := prog_17_method_40_code
def yJ2_indexOf_4cfef : MethodName := ⟨RJ2, "indexOf", "([BIII)I"⟩
abbrev cJ2_indexOfChar_4cfef : ByteArray := prog_17_method_47_code
def yJ2_indexOfChar_4cfef : MethodName := ⟨RJ2, "indexOfChar", "([BIII)I"⟩
abbrev cJ2_indexOfCharUnsafe_4cfef : ByteArray := prog_17_method_48_code
def yJ2_indexOfCharUnsafe_4cfef : MethodName := ⟨RJ2, "indexOfCharUnsafe", "([BIII)I"⟩
abbrev cJ2_indexOfSupplementary_4cfef : ByteArray := prog_17_method_49_code
def yJ2_indexOfSupplementary_4cfef : MethodName := ⟨RJ2, "indexOfSupplementary", "([BIII)I"⟩
abbrev cJ2_charAt_3b067 : ByteArray := prog_17_method_83_code
def yJ2_charAt_3b067 : MethodName := ⟨RJ2, "charAt", "([BI)C"⟩
abbrev cJ2_checkIndex_2214a : ByteArray := prog_17_method_91_code
def yJ2_checkIndex_2214a : MethodName := ⟨RJ2, "checkIndex", "(I[B)V"⟩
abbrev cJ2_checkBoundsBeginEnd_d044e : ByteArray := prog_17_method_93_code
def yJ2_checkBoundsBeginEnd_d044e : MethodName := ⟨RJ2, "checkBoundsBeginEnd", "(II[B)V"⟩
def RJ10 : String := "java/lang/System"
def RJ3 : String := "jdk/internal/util/Preconditions"
abbrev cJ3_checkIndex_8e157 : ByteArray := prog_19_method_11_code
def yJ3_checkIndex_8e157 : MethodName := ⟨RJ3, "checkIndex", "(IILjava/util/function/BiFunction;)I"⟩
abbrev cJ3_checkFromToIndex_8c36e : ByteArray := prog_19_method_12_code
def yJ3_checkFromToIndex_8c36e : MethodName := ⟨RJ3, "checkFromToIndex", "(IIILjava/util/function/BiFunction;)I"⟩
def RL : String := "LockedAtDuskLaw"
abbrev cL_law : ByteArray := code
def yL_law : MethodName := ⟨RL, "law", "([I)Z"⟩
abbrev vwCl : List vw_C := [(RX0, TX0, 5), (RX1, TX1, 4), (RX2, TX2, 5), (RX3, TX3, 15), (RX4, TX4, 7), (RX5, TX5, 4), (RX6, TX6, 4), (RX7, TX7, 3), (RX8, TX8, 11), (RX9, TX9, 93)]
